/-! ===== pure: orders of pairs ===== -/
def cbB (ff : Bool) (Ar Sh : Int → Int) (p q : Int) : Bool := if ff = true then decide (Sh q < Sh p ∨ (Sh p = Sh q ∧ Ar q < Ar p)) else decide (Ar p < Ar q)
theorem cbB_t {ff : Bool} {Ar Sh : Int → Int} {p q : Int} : cbB ff Ar Sh p q = true ↔ (ff = true ∧ (Sh q < Sh p ∨ (Sh p = Sh q ∧ Ar q < Ar p))) ∨ (¬ ff = true ∧ Ar p < Ar q) := by
  unfold cbB
  by_cases h : ff = true
  · rw [if_pos h, decide_eq_true_iff]; simp [h]
  · rw [if_neg h, decide_eq_true_iff]; simp [h]
def ahB (ff : Bool) (Ar Sh : Int → Int) (p q : Int) : Bool := if ff = true then decide (Sh q < Sh p ∨ (Sh p = Sh q ∧ (Ar q < Ar p ∨ (Ar p = Ar q ∧ p < q)))) else decide (Ar p < Ar q ∨ (Ar p = Ar q ∧ p < q))
theorem ahB_t {ff : Bool} {Ar Sh : Int → Int} {p q : Int} : ahB ff Ar Sh p q = true ↔ (ff = true ∧ (Sh q < Sh p ∨ (Sh p = Sh q ∧ (Ar q < Ar p ∨ (Ar p = Ar q ∧ p < q))))) ∨ (¬ ff = true ∧ (Ar p < Ar q ∨ (Ar p = Ar q ∧ p < q))) := by
  unfold ahB
  by_cases h : ff = true
  · rw [if_pos h, decide_eq_true_iff]; simp [h]
  · rw [if_neg h, decide_eq_true_iff]; simp [h]
theorem ahB_irr {ff : Bool} {Ar Sh : Int → Int} {p : Int} : ¬ ahB ff Ar Sh p p = true := by
  rw [ahB_t]; omega
theorem ahB_tr {ff : Bool} {Ar Sh : Int → Int} {p q r : Int} (h1 : ahB ff Ar Sh p q = true) (h2 : ahB ff Ar Sh q r = true) : ahB ff Ar Sh p r = true := by
  rw [ahB_t] at *
  cases ff <;> simp only [eq_self, reduceCtorEq, true_and, false_and, not_true_eq_false, not_false_eq_true, or_false, false_or] at * <;> omega
theorem ahB_tot {ff : Bool} {Ar Sh : Int → Int} {p q : Int} (h : p ≠ q) : ahB ff Ar Sh p q = true ∨ ahB ff Ar Sh q p = true := by
  rw [ahB_t, ahB_t]
  cases ff <;> simp only [eq_self, reduceCtorEq, true_and, false_and, not_true_eq_false, not_false_eq_true, or_false, false_or] at * <;> omega
theorem ahB_cb {ff : Bool} {Ar Sh : Int → Int} {p q : Int} (h : q < p) : ahB ff Ar Sh p q = true ↔ cbB ff Ar Sh p q = true := by
  rw [ahB_t, cbB_t]
  cases ff <;> simp only [eq_self, reduceCtorEq, true_and, false_and, not_true_eq_false, not_false_eq_true, or_false, false_or] at * <;> omega
/-- how many pairs below i are ahead of k -/
def cnF (pr : Int → Bool) (ah : Int → Int → Bool) (k : Int) : Int → Int := fun e => if pr e = true ∧ ah e k = true then 1 else 0
def cnS (pr : Int → Bool) (ah : Int → Int → Bool) (i k : Int) : Int := sumZ (cnF pr ah k) i.toNat
def pcF (pr : Int → Bool) : Int → Int := fun e => if pr e = true then 1 else 0
def pcS (pr : Int → Bool) (i : Int) : Int := sumZ (pcF pr) i.toNat
theorem cnS_s (pr : Int → Bool) (ah : Int → Int → Bool) {i : Int} (k : Int) (h : 0 ≤ i) : cnS pr ah (i + 1) k = cnS pr ah i k + cnF pr ah k i := sumZ_s _ h
theorem pcS_s (pr : Int → Bool) {i : Int} (h : 0 ≤ i) : pcS pr (i + 1) = pcS pr i + pcF pr i := sumZ_s _ h
theorem sumZ_le {f g : Int → Int} : ∀ n : Nat, (∀ j : Int, 0 ≤ j → j < (n : Int) → f j ≤ g j) → sumZ f n ≤ sumZ g n
  | 0, _ => Int.le_refl _
  | n + 1, h => by
    have h1 := sumZ_le n (fun j h0 hj => h j h0 (by omega))
    have h2 := h n (by omega) (by omega)
    show sumZ f n + f n ≤ sumZ g n + g n
    omega
theorem sumZ_lt {f g : Int → Int} {x : Int} : ∀ n : Nat, 0 ≤ x → x < (n : Int) → f x + 1 ≤ g x → (∀ j : Int, 0 ≤ j → j < (n : Int) → f j ≤ g j) → sumZ f n + 1 ≤ sumZ g n
  | 0, h0, h1, _, _ => by omega
  | n + 1, h0, h1, hx, h => by
    show sumZ f n + f n + 1 ≤ sumZ g n + g n
    by_cases e : x = (n : Int)
    · have h2 := sumZ_le (f := f) (g := g) n (fun j h0 hj => h j h0 (by omega))
      rw [e] at hx
      omega
    · have h2 := sumZ_lt (f := f) (g := g) (x := x) n h0 (by omega) hx (fun j h0 hj => h j h0 (by omega))
      have h3 := h n (by omega) (by omega)
      omega
theorem cnS_le {pr : Int → Bool} {ah : Int → Int → Bool} {i x y : Int} (tr : ∀ p q r : Int, ah p q = true → ah q r = true → ah p r = true) (hi : 0 ≤ i) (h : ah x y = true) : cnS pr ah i x ≤ cnS pr ah i y :=
  sumZ_le _ (fun j _ _ => by
    unfold cnF
    by_cases h1 : pr j = true ∧ ah j x = true
    · rw [if_pos h1, if_pos ⟨h1.1, tr _ _ _ h1.2 h⟩]; omega
    · rw [if_neg h1]; split <;> omega)
theorem cnS_lt {pr : Int → Bool} {ah : Int → Int → Bool} {i x y : Int} (irr : ∀ p : Int, ¬ ah p p = true) (tr : ∀ p q r : Int, ah p q = true → ah q r = true → ah p r = true) (hx : 0 ≤ x ∧ x < i) (hp : pr x = true) (h : ah x y = true) : cnS pr ah i x + 1 ≤ cnS pr ah i y :=
  sumZ_lt (x := x) _ hx.1 (by omega) (by
    unfold cnF
    rw [if_neg (fun e => irr x e.2), if_pos ⟨hp, h⟩]; omega) (fun j _ _ => by
    unfold cnF
    by_cases h1 : pr j = true ∧ ah j x = true
    · rw [if_pos h1, if_pos ⟨h1.1, tr _ _ _ h1.2 h⟩]; omega
    · rw [if_neg h1]; split <;> omega)
theorem cnS_pc {pr : Int → Bool} {ah : Int → Int → Bool} {i k : Int} : cnS pr ah i k ≤ pcS pr i :=
  sumZ_le _ (fun j _ _ => by
    unfold cnF pcF
    by_cases h1 : pr j = true ∧ ah j k = true
    · rw [if_pos h1, if_pos h1.1]; omega
    · rw [if_neg h1]; split <;> omega)
theorem cnS_0 {pr : Int → Bool} {ah : Int → Int → Bool} {i k : Int} : 0 ≤ cnS pr ah i k := (sumZ_r (b := 1) i.toNat (fun j _ _ => by unfold cnF; split <;> omega)).1
theorem pcS_r {pr : Int → Bool} {i : Int} (h : 0 ≤ i) : 0 ≤ pcS pr i ∧ pcS pr i ≤ i := by
  have := sumZ_r (f := pcF pr) (b := 1) i.toNat (fun j _ _ => by unfold pcF; split <;> omega)
  unfold pcS
  omega
/-- the places of the ranks, of the pairs below i -/
def rkOk (pr : Int → Bool) (ah : Int → Int → Bool) (i : Int) (P : Int → Int) : Prop := ∀ r : Int, 0 ≤ r → r < pcS pr i → (0 ≤ P r ∧ P r < i) ∧ pr (P r) = true ∧ cnS pr ah i (P r) = r
theorem rkOk_no {pr : Int → Bool} {ah : Int → Int → Bool} {i : Int} {P : Int → Int} (hi : 0 ≤ i) (h : rkOk pr ah i P) (hp : ¬ pr i = true) : pcS pr (i + 1) = pcS pr i ∧ rkOk pr ah (i + 1) P := by
  have e : pcS pr (i + 1) = pcS pr i := by
    rw [pcS_s _ hi]; unfold pcF; rw [if_neg hp]; omega
  refine ⟨e, fun r h0 h1 => ?_⟩
  obtain ⟨g1, g2, g3⟩ := h r h0 (by omega)
  refine ⟨⟨g1.1, by omega⟩, g2, ?_⟩
  rw [cnS_s _ _ _ hi, g3]
  unfold cnF
  rw [if_neg (fun q => hp q.1)]; omega
theorem rkOk_in {pr : Int → Bool} {ah : Int → Int → Bool} {i c : Int} {P P2 : Int → Int} (irr : ∀ p : Int, ¬ ah p p = true) (tr : ∀ p q r : Int, ah p q = true → ah q r = true → ah p r = true) (tot : ∀ p q : Int, p ≠ q → ah p q = true ∨ ah q p = true)
    (hi : 0 ≤ i) (h : rkOk pr ah i P) (hp : pr i = true) (hc : 0 ≤ c ∧ c ≤ pcS pr i) (h1 : ∀ r : Int, c ≤ r → r < pcS pr i → ah i (P r) = true) (h2 : c = 0 ∨ ¬ ah i (P (c - 1)) = true)
    (hP : ∀ r : Int, 0 ≤ r → r ≤ pcS pr i → P2 r = if r < c then P r else if r = c then i else P (r - 1)) : pcS pr (i + 1) = pcS pr i + 1 ∧ rkOk pr ah (i + 1) P2 := by
  have e : pcS pr (i + 1) = pcS pr i + 1 := by
    rw [pcS_s _ hi]; unfold pcF; rw [if_pos hp]
  have lo : ∀ r : Int, 0 ≤ r → r < c → ah (P r) i = true := by
    intro r r0 r1
    obtain ⟨g1, g2, g3⟩ := h r r0 (by omega)
    rcases tot (P r) i (by omega) with q | q
    · exact q
    · exfalso
      rcases h2 with h2 | h2
      · omega
      · obtain ⟨k1, k2, k3⟩ := h (c - 1) (by omega) (by omega)
        by_cases er : r = c - 1
        · rw [er] at q; exact h2 q
        · rcases tot (P r) (P (c - 1)) (fun ee => by rw [ee] at g3; omega) with w | w
          · exact h2 (tr _ _ _ q w)
          · have := cnS_lt (pr := pr) irr tr k1 k2 w
            omega
  have ci : cnS pr ah i i = c := by
    have a1 : c ≤ cnS pr ah i i := by
      by_cases ec : c = 0
      · rw [ec]; exact cnS_0
      · obtain ⟨k1, k2, k3⟩ := h (c - 1) (by omega) (by omega)
        have := cnS_lt (pr := pr) irr tr k1 k2 (lo (c - 1) (by omega) (by omega))
        omega
    have a2 : cnS pr ah i i ≤ c := by
      by_cases ec : c = pcS pr i
      · rw [ec]; exact cnS_pc
      · obtain ⟨k1, k2, k3⟩ := h c (by omega) (by omega)
        have := cnS_le (pr := pr) tr hi (h1 c (Int.le_refl _) (by omega))
        omega
    omega
  refine ⟨e, fun r r0 r1 => ?_⟩
  rw [hP r r0 (by omega)]
  by_cases ra : r < c
  · rw [if_pos ra]
    obtain ⟨g1, g2, g3⟩ := h r r0 (by omega)
    refine ⟨⟨g1.1, by omega⟩, g2, ?_⟩
    rw [cnS_s _ _ _ hi, g3]
    unfold cnF
    rw [if_neg (fun q => irr i (tr _ _ _ q.2 (lo r r0 ra)))]; omega
  · rw [if_neg ra]
    by_cases rb : r = c
    · rw [if_pos rb]
      refine ⟨⟨hi, by omega⟩, hp, ?_⟩
      rw [cnS_s _ _ _ hi, ci]
      unfold cnF
      rw [if_neg (fun q => irr i q.2)]; omega
    · rw [if_neg rb]
      obtain ⟨g1, g2, g3⟩ := h (r - 1) (by omega) (by omega)
      refine ⟨⟨g1.1, by omega⟩, g2, ?_⟩
      rw [cnS_s _ _ _ hi, g3]
      unfold cnF
      rw [if_pos ⟨hp, h1 (r - 1) (by omega) (by omega)⟩]; omega
theorem hX2_placeAt_X2 : ∀ w ∈ wsX20, w ∈ wsX2_placeAt := by decide +kernel
theorem kX2_placeAt_f19 : Cond.fieldLink RX2 19 "SignLetters$Ranking" "size" "I" ∈ wsX2_placeAt := by decide +kernel
theorem kX2_placeAt_f9 : Cond.fieldLink RX2 9 "SignLetters$Ranking" "places" "[I" ∈ wsX2_placeAt := by decide +kernel
theorem kX2_placeAt_inX5 : Cond.initialized RX5 ∈ wsX2_placeAt := by decide +kernel
theorem kX2_placeAt_stX5_valueAt : Cond.static yX5_valueAt ∈ wsX2_placeAt := by decide +kernel
set_option maxHeartbeats 400000 in
set_option maxRecDepth 100000 in
theorem mX2_placeAt (G : ZG) (k : Nat) (kp : Nat) (ff : Bool) (sz : Int) (P : Int → Int) (j : Int) (hz : 0 ≤ sz ∧ sz ≤ 20) (hj : -2147483648 ≤ j ∧ j < 2147483648) : zMeti yX2_placeAt wsX2_placeAt { frames := 1, cells := 0, slots := 0, locals := 21 } G [.ref k, .int (iI (j))] [(k, .inr (2, [.int (iI (bI (ff = true))), .ref kp, .int (iI (sz))])), (kp, zI G 20 (P))] (fun (rr : Int32) (uu : Unit) => rr = iI (if 0 ≤ j ∧ j < sz then P j else -1)) (fun (uu : Unit) => [(k, .inr (2, [.int (iI (bI (ff = true))), .ref kp, .int (iI (sz))])), (kp, zI G 20 (P))]) 0 0 := by
  refine z_meti (cc := cX2_placeAt) (nL := 2) (rt := .int) (by decide +kernel) rfl (Nat.le_of_ble_eq_true rfl) (fun X hX ex => ?_)
  have hX : ZOk G X 2 cX2_placeAt RX2 wsX2_placeAt { frames := 1, cells := 0, slots := 0, locals := 21 } := hX
  show Z G X 2 (0) (0) [(k, .inr (2, [.int (iI (bI (ff = true))), .ref kp, .int (iI (sz))])), (kp, zI G 20 (P))] 0 [(0, .ref k), (1, .int (iI (j)))] []
  refine z_iload_n (pc := 0) hX 1 rfl rfl dX2_placeAt_0 ?_
  refine z_if_lt (pc := 1) (tgt := 23) hX (by decide) (by omega) dX2_placeAt_1 (fun c_1 => ?_) (fun c_1 => ?_)
  · refine z_iconst (pc := 23) hX dX2_placeAt_23 ?_
    exact ex _ _ _ () _ dX2_placeAt_24 rfl (congrArg iI (show ((-1) : Int) = if 0 ≤ j ∧ j < sz then P j else -1 from by first | (rw [if_pos (by omega)]; done) | (rw [if_neg (by omega)]))) rfl
  · refine z_iload_n (pc := 4) hX 1 rfl rfl dX2_placeAt_4 ?_
    refine z_aload_n (pc := 5) hX 0 rfl rfl dX2_placeAt_5 ?_
    refine z_get (pc := 6) hX (T := TX2) (C := RX2) (N := 3) (i := 19) (ref := "SignLetters$Ranking") (name := "size") (desc := "I") hX2_placeAt_X2 0 rfl rfl 2 (by decide) kX2_placeAt_f19 ⟨rfl, rfl, rfl⟩ (v := .int (iI (sz))) rfl dX2_placeAt_6 ?_
    refine z_icmp_ge (pc := 9) (tgt := 23) hX (by decide) (by omega) (by omega) dX2_placeAt_9 (fun c_2 => ?_) (fun c_2 => ?_)
    · refine z_iconst (pc := 23) hX dX2_placeAt_23 ?_
      exact ex _ _ _ () _ dX2_placeAt_24 rfl (congrArg iI (show ((-1) : Int) = if 0 ≤ j ∧ j < sz then P j else -1 from by first | (rw [if_pos (by omega)]; done) | (rw [if_neg (by omega)]))) rfl
    · refine z_aload_n (pc := 12) hX 0 rfl rfl dX2_placeAt_12 ?_
      refine z_get (pc := 13) hX (T := TX2) (C := RX2) (N := 3) (i := 9) (ref := "SignLetters$Ranking") (name := "places") (desc := "[I") hX2_placeAt_X2 0 rfl rfl 1 (by decide) kX2_placeAt_f9 ⟨rfl, rfl, rfl⟩ (v := .ref kp) rfl dX2_placeAt_13 ?_
      refine z_iload_n (pc := 16) hX 1 rfl rfl dX2_placeAt_16 ?_
      refine z_callSN_i (pc := 17) (As := [.ref kp, .int (iI (j))]) (rest := []) (wc := [(kp, zI G 20 (P))]) (wr := [(k, .inr (2, [.int (iI (bI (ff = true))), .ref kp, .int (iI (sz))]))]) hX (mX5_valueAt G (kp) (20) (P) (j) (by first | assumption | omega | (clear ex hX; grind [uZ])) (by first | assumption | omega | (clear ex hX; grind [uZ]))) rfl rfl rfl gX2_placeAt_X5_valueAt_n36 hdX5_valueAt (by decide +kernel) kX2_placeAt_inX5 kX2_placeAt_stX5_valueAt ⟨Nat.le_of_ble_eq_true rfl, Nat.le_of_ble_eq_true rfl⟩ [1] [0] rfl rfl (by decide) (by decide) (by decide) rfl (Nat.le_of_ble_eq_true rfl) ⟨Nat.le_of_ble_eq_true rfl, Nat.le_of_ble_eq_true rfl⟩ dX2_placeAt_17 (fun r_3 u_3 h_3 => ?_)
      subst h_3
      show Z G X 2 (0) (0) [(k, .inr (2, [.int (iI (bI (ff = true))), .ref kp, .int (iI (sz))])), (kp, zI G 20 (P))] 20 [(0, .ref k), (1, .int (iI (j)))] [.int (iI (P j))]
      refine z_goto (pc := 20) (tgt := 24) hX (by decide) dX2_placeAt_20 ?_
      exact ex _ _ _ () _ dX2_placeAt_24 rfl (congrArg iI (show (P j : Int) = if 0 ≤ j ∧ j < sz then P j else -1 from by first | (rw [if_pos (by omega)]; done) | (rw [if_neg (by omega)]))) rfl
theorem hX2_comesBefore_X0 : ∀ w ∈ wsX00, w ∈ wsX2_comesBefore := by decide +kernel
theorem hX2_comesBefore_X2 : ∀ w ∈ wsX20, w ∈ wsX2_comesBefore := by decide +kernel
theorem kX2_comesBefore_f15 : Cond.fieldLink RX2 15 "SignLetters$Ranking" "ofFaults" "Z" ∈ wsX2_comesBefore := by decide +kernel
theorem kX2_comesBefore_inX5 : Cond.initialized RX5 ∈ wsX2_comesBefore := by decide +kernel
theorem kX2_comesBefore_stX5_valueAt : Cond.static yX5_valueAt ∈ wsX2_comesBefore := by decide +kernel
set_option maxHeartbeats 400000 in
set_option maxRecDepth 100000 in
theorem mX2_comesBefore (G : ZG) (k : Nat) (kp : Nat) (ff : Bool) (sz : Int) (y : Nat) (ys : Nat) (yb : Nat) (ye : Nat) (yl : Nat) (yg : Nat) (ya : Nat) (yh : Nat) (yd : Nat) (yi : Nat) (im : Int) (ps : Int) (fs : Int) (wd : Int) (rl : Int) (wa : Int) (sn : Int) (al : Int) (Ar : Int → Int) (Sh : Int → Int) (p : Int) (q : Int) (him : 0 ≤ im ∧ im ≤ 20) (rA : ∀ j : Int, 0 ≤ j → j < im → -1 ≤ Ar j ∧ Ar j ≤ 400) (rS : ∀ j : Int, 0 ≤ j → j < im → -1 ≤ Sh j ∧ Sh j ≤ 40000) (hp : 0 ≤ p ∧ p < im) (hq : 0 ≤ q ∧ q < im) : zMeti yX2_comesBefore wsX2_comesBefore { frames := 1, cells := 0, slots := 0, locals := 21 } G [.ref k, .ref y, .int (iI (p)), .int (iI (q))] [(k, .inr (2, [.int (iI (bI (ff = true))), .ref kp, .int (iI (sz))])), (y, .inr (0, [.ref ys, .ref yb, .ref ye, .ref yl, .ref yg, .ref ya, .ref yh, .ref yd, .ref yi, .int (iI (im)), .int (iI (ps)), .int (iI (fs)), .int (iI (wd)), .int (iI (rl)), .int (iI (wa)), .int (iI (sn)), .int (iI (al))])), (ya, zI G 20 (Ar)), (yh, zI G 20 (Sh))] (fun (rr : Int32) (uu : Unit) => rr = iI (bI (cbB ff Ar Sh p q = true))) (fun (uu : Unit) => [(k, .inr (2, [.int (iI (bI (ff = true))), .ref kp, .int (iI (sz))])), (y, .inr (0, [.ref ys, .ref yb, .ref ye, .ref yl, .ref yg, .ref ya, .ref yh, .ref yd, .ref yi, .int (iI (im)), .int (iI (ps)), .int (iI (fs)), .int (iI (wd)), .int (iI (rl)), .int (iI (wa)), .int (iI (sn)), .int (iI (al))])), (ya, zI G 20 (Ar)), (yh, zI G 20 (Sh))]) 0 0 := by
  refine z_meti (cc := cX2_comesBefore) (nL := 8) (rt := .boolean) (by decide +kernel) rfl (Nat.le_of_ble_eq_true rfl) (fun X hX ex => ?_)
  have hX : ZOk G X 8 cX2_comesBefore RX2 wsX2_comesBefore { frames := 1, cells := 0, slots := 0, locals := 21 } := hX
  show Z G X 8 (0) (0) [(k, .inr (2, [.int (iI (bI (ff = true))), .ref kp, .int (iI (sz))])), (y, .inr (0, [.ref ys, .ref yb, .ref ye, .ref yl, .ref yg, .ref ya, .ref yh, .ref yd, .ref yi, .int (iI (im)), .int (iI (ps)), .int (iI (fs)), .int (iI (wd)), .int (iI (rl)), .int (iI (wa)), .int (iI (sn)), .int (iI (al))])), (ya, zI G 20 (Ar)), (yh, zI G 20 (Sh))] 0 [(0, .ref k), (1, .ref y), (2, .int (iI (p))), (3, .int (iI (q)))] []
  have a1 := rA p hp.1 hp.2
  have a2 := rA q hq.1 hq.2
  have a3 := rS p hp.1 hp.2
  have a4 := rS q hq.1 hq.2
  refine z_aload_n (pc := 0) hX 1 rfl rfl dX2_comesBefore_0 ?_
  refine z_getN (pc := 1) hX (T := TX0) (C := RX0) (N := 17) (i := 48) (ref := RX0) (name := "areas") (desc := "[I") hX2_comesBefore_X0 1 rfl rfl 5 (by decide) (by decide +kernel) ⟨rfl, rfl, rfl⟩ (v := .ref ya) rfl dX2_comesBefore_1 ?_
  refine z_iload_n (pc := 4) hX 2 rfl rfl dX2_comesBefore_4 ?_
  refine z_callSN_i (pc := 5) (As := [.ref ya, .int (iI (p))]) (rest := []) (wc := [(ya, zI G 20 (Ar))]) (wr := [(k, .inr (2, [.int (iI (bI (ff = true))), .ref kp, .int (iI (sz))])), (y, .inr (0, [.ref ys, .ref yb, .ref ye, .ref yl, .ref yg, .ref ya, .ref yh, .ref yd, .ref yi, .int (iI (im)), .int (iI (ps)), .int (iI (fs)), .int (iI (wd)), .int (iI (rl)), .int (iI (wa)), .int (iI (sn)), .int (iI (al))])), (yh, zI G 20 (Sh))]) hX (mX5_valueAt G (ya) (20) (Ar) (p) (by first | assumption | omega | (clear ex hX; grind [uZ])) (by first | assumption | omega | (clear ex hX; grind [uZ]))) rfl rfl rfl gX2_comesBefore_X5_valueAt_n36 hdX5_valueAt (by decide +kernel) kX2_comesBefore_inX5 kX2_comesBefore_stX5_valueAt ⟨Nat.le_of_ble_eq_true rfl, Nat.le_of_ble_eq_true rfl⟩ [2] [0, 1, 3] rfl rfl (by decide) (by decide) (by decide) rfl (Nat.le_of_ble_eq_true rfl) ⟨Nat.le_of_ble_eq_true rfl, Nat.le_of_ble_eq_true rfl⟩ dX2_comesBefore_5 (fun r_1 u_1 h_1 => ?_)
  subst h_1
  show Z G X 8 (0) (0) [(k, .inr (2, [.int (iI (bI (ff = true))), .ref kp, .int (iI (sz))])), (y, .inr (0, [.ref ys, .ref yb, .ref ye, .ref yl, .ref yg, .ref ya, .ref yh, .ref yd, .ref yi, .int (iI (im)), .int (iI (ps)), .int (iI (fs)), .int (iI (wd)), .int (iI (rl)), .int (iI (wa)), .int (iI (sn)), .int (iI (al))])), (yh, zI G 20 (Sh)), (ya, zI G 20 (Ar))] 8 [(0, .ref k), (1, .ref y), (2, .int (iI (p))), (3, .int (iI (q)))] [.int (iI (Ar p))]
  refine z_istore (pc := 8) hX (loc' := [(4, .int (iI (Ar p))), (0, .ref k), (1, .ref y), (2, .int (iI (p))), (3, .int (iI (q)))]) (by decide) rfl dX2_comesBefore_8 ?_
  refine z_aload_n (pc := 10) hX 2 rfl rfl dX2_comesBefore_10 ?_
  refine z_getN (pc := 11) hX (T := TX0) (C := RX0) (N := 17) (i := 48) (ref := RX0) (name := "areas") (desc := "[I") hX2_comesBefore_X0 1 rfl rfl 5 (by decide) (by decide +kernel) ⟨rfl, rfl, rfl⟩ (v := .ref ya) rfl dX2_comesBefore_11 ?_
  refine z_iload_n (pc := 14) hX 4 rfl rfl dX2_comesBefore_14 ?_
  refine z_callSN_i (pc := 15) (As := [.ref ya, .int (iI (q))]) (rest := []) (wc := [(ya, zI G 20 (Ar))]) (wr := [(k, .inr (2, [.int (iI (bI (ff = true))), .ref kp, .int (iI (sz))])), (y, .inr (0, [.ref ys, .ref yb, .ref ye, .ref yl, .ref yg, .ref ya, .ref yh, .ref yd, .ref yi, .int (iI (im)), .int (iI (ps)), .int (iI (fs)), .int (iI (wd)), .int (iI (rl)), .int (iI (wa)), .int (iI (sn)), .int (iI (al))])), (yh, zI G 20 (Sh))]) hX (mX5_valueAt G (ya) (20) (Ar) (q) (by first | assumption | omega | (clear ex hX; grind [uZ])) (by first | assumption | omega | (clear ex hX; grind [uZ]))) rfl rfl rfl gX2_comesBefore_X5_valueAt_n36 hdX5_valueAt (by decide +kernel) kX2_comesBefore_inX5 kX2_comesBefore_stX5_valueAt ⟨Nat.le_of_ble_eq_true rfl, Nat.le_of_ble_eq_true rfl⟩ [3] [0, 1, 2] rfl rfl (by decide) (by decide) (by decide) rfl (Nat.le_of_ble_eq_true rfl) ⟨Nat.le_of_ble_eq_true rfl, Nat.le_of_ble_eq_true rfl⟩ dX2_comesBefore_15 (fun r_2 u_2 h_2 => ?_)
  subst h_2
  show Z G X 8 (0) (0) [(k, .inr (2, [.int (iI (bI (ff = true))), .ref kp, .int (iI (sz))])), (y, .inr (0, [.ref ys, .ref yb, .ref ye, .ref yl, .ref yg, .ref ya, .ref yh, .ref yd, .ref yi, .int (iI (im)), .int (iI (ps)), .int (iI (fs)), .int (iI (wd)), .int (iI (rl)), .int (iI (wa)), .int (iI (sn)), .int (iI (al))])), (yh, zI G 20 (Sh)), (ya, zI G 20 (Ar))] 18 [(4, .int (iI (Ar p))), (0, .ref k), (1, .ref y), (2, .int (iI (p))), (3, .int (iI (q)))] [.int (iI (Ar q))]
  refine z_istore (pc := 18) hX (loc' := [(5, .int (iI (Ar q))), (4, .int (iI (Ar p))), (0, .ref k), (1, .ref y), (2, .int (iI (p))), (3, .int (iI (q)))]) (by decide) rfl dX2_comesBefore_18 ?_
  refine z_aload_n (pc := 20) hX 2 rfl rfl dX2_comesBefore_20 ?_
  refine z_get (pc := 21) hX (T := TX2) (C := RX2) (N := 3) (i := 15) (ref := "SignLetters$Ranking") (name := "ofFaults") (desc := "Z") hX2_comesBefore_X2 0 rfl rfl 0 (by decide) kX2_comesBefore_f15 ⟨rfl, rfl, rfl⟩ (v := .int (iI (bI (ff = true)))) rfl dX2_comesBefore_21 ?_
  refine z_bif_ne (pc := 24) (tgt := 40) hX (by decide) dX2_comesBefore_24 (fun c_3 => ?_) (fun c_3 => ?_)
  · refine z_aload_n (pc := 40) hX 3 rfl rfl dX2_comesBefore_40 ?_
    refine z_getN (pc := 41) hX (T := TX0) (C := RX0) (N := 17) (i := 51) (ref := RX0) (name := "shares") (desc := "[I") hX2_comesBefore_X0 1 rfl rfl 6 (by decide) (by decide +kernel) ⟨rfl, rfl, rfl⟩ (v := .ref yh) rfl dX2_comesBefore_41 ?_
    refine z_iload_n (pc := 44) hX 4 rfl rfl dX2_comesBefore_44 ?_
    refine z_callSN_i (pc := 45) (As := [.ref yh, .int (iI (p))]) (rest := []) (wc := [(yh, zI G 20 (Sh))]) (wr := [(k, .inr (2, [.int (iI (bI (ff = true))), .ref kp, .int (iI (sz))])), (y, .inr (0, [.ref ys, .ref yb, .ref ye, .ref yl, .ref yg, .ref ya, .ref yh, .ref yd, .ref yi, .int (iI (im)), .int (iI (ps)), .int (iI (fs)), .int (iI (wd)), .int (iI (rl)), .int (iI (wa)), .int (iI (sn)), .int (iI (al))])), (ya, zI G 20 (Ar))]) hX (mX5_valueAt G (yh) (20) (Sh) (p) (by first | assumption | omega | (clear ex hX; grind [uZ])) (by first | assumption | omega | (clear ex hX; grind [uZ]))) rfl rfl rfl gX2_comesBefore_X5_valueAt_n36 hdX5_valueAt (by decide +kernel) kX2_comesBefore_inX5 kX2_comesBefore_stX5_valueAt ⟨Nat.le_of_ble_eq_true rfl, Nat.le_of_ble_eq_true rfl⟩ [2] [0, 1, 3] rfl rfl (by decide) (by decide) (by decide) rfl (Nat.le_of_ble_eq_true rfl) ⟨Nat.le_of_ble_eq_true rfl, Nat.le_of_ble_eq_true rfl⟩ dX2_comesBefore_45 (fun r_4 u_4 h_4 => ?_)
    subst h_4
    show Z G X 8 (0) (0) [(k, .inr (2, [.int (iI (bI (ff = true))), .ref kp, .int (iI (sz))])), (y, .inr (0, [.ref ys, .ref yb, .ref ye, .ref yl, .ref yg, .ref ya, .ref yh, .ref yd, .ref yi, .int (iI (im)), .int (iI (ps)), .int (iI (fs)), .int (iI (wd)), .int (iI (rl)), .int (iI (wa)), .int (iI (sn)), .int (iI (al))])), (ya, zI G 20 (Ar)), (yh, zI G 20 (Sh))] 48 [(5, .int (iI (Ar q))), (4, .int (iI (Ar p))), (0, .ref k), (1, .ref y), (2, .int (iI (p))), (3, .int (iI (q)))] [.int (iI (Sh p))]
    refine z_istore (pc := 48) hX (loc' := [(6, .int (iI (Sh p))), (5, .int (iI (Ar q))), (4, .int (iI (Ar p))), (0, .ref k), (1, .ref y), (2, .int (iI (p))), (3, .int (iI (q)))]) (by decide) rfl dX2_comesBefore_48 ?_
    refine z_aload_n (pc := 50) hX 4 rfl rfl dX2_comesBefore_50 ?_
    refine z_getN (pc := 51) hX (T := TX0) (C := RX0) (N := 17) (i := 51) (ref := RX0) (name := "shares") (desc := "[I") hX2_comesBefore_X0 1 rfl rfl 6 (by decide) (by decide +kernel) ⟨rfl, rfl, rfl⟩ (v := .ref yh) rfl dX2_comesBefore_51 ?_
    refine z_iload_n (pc := 54) hX 6 rfl rfl dX2_comesBefore_54 ?_
    refine z_callSN_i (pc := 55) (As := [.ref yh, .int (iI (q))]) (rest := []) (wc := [(yh, zI G 20 (Sh))]) (wr := [(k, .inr (2, [.int (iI (bI (ff = true))), .ref kp, .int (iI (sz))])), (y, .inr (0, [.ref ys, .ref yb, .ref ye, .ref yl, .ref yg, .ref ya, .ref yh, .ref yd, .ref yi, .int (iI (im)), .int (iI (ps)), .int (iI (fs)), .int (iI (wd)), .int (iI (rl)), .int (iI (wa)), .int (iI (sn)), .int (iI (al))])), (ya, zI G 20 (Ar))]) hX (mX5_valueAt G (yh) (20) (Sh) (q) (by first | assumption | omega | (clear ex hX; grind [uZ])) (by first | assumption | omega | (clear ex hX; grind [uZ]))) rfl rfl rfl gX2_comesBefore_X5_valueAt_n36 hdX5_valueAt (by decide +kernel) kX2_comesBefore_inX5 kX2_comesBefore_stX5_valueAt ⟨Nat.le_of_ble_eq_true rfl, Nat.le_of_ble_eq_true rfl⟩ [3] [0, 1, 2] rfl rfl (by decide) (by decide) (by decide) rfl (Nat.le_of_ble_eq_true rfl) ⟨Nat.le_of_ble_eq_true rfl, Nat.le_of_ble_eq_true rfl⟩ dX2_comesBefore_55 (fun r_5 u_5 h_5 => ?_)
    subst h_5
    show Z G X 8 (0) (0) [(k, .inr (2, [.int (iI (bI (ff = true))), .ref kp, .int (iI (sz))])), (y, .inr (0, [.ref ys, .ref yb, .ref ye, .ref yl, .ref yg, .ref ya, .ref yh, .ref yd, .ref yi, .int (iI (im)), .int (iI (ps)), .int (iI (fs)), .int (iI (wd)), .int (iI (rl)), .int (iI (wa)), .int (iI (sn)), .int (iI (al))])), (ya, zI G 20 (Ar)), (yh, zI G 20 (Sh))] 58 [(6, .int (iI (Sh p))), (5, .int (iI (Ar q))), (4, .int (iI (Ar p))), (0, .ref k), (1, .ref y), (2, .int (iI (p))), (3, .int (iI (q)))] [.int (iI (Sh q))]
    refine z_istore (pc := 58) hX (loc' := [(7, .int (iI (Sh q))), (6, .int (iI (Sh p))), (5, .int (iI (Ar q))), (4, .int (iI (Ar p))), (0, .ref k), (1, .ref y), (2, .int (iI (p))), (3, .int (iI (q)))]) (by decide) rfl dX2_comesBefore_58 ?_
    refine z_iload (pc := 60) hX 1 rfl dX2_comesBefore_60 ?_
    refine z_iload (pc := 62) hX 0 rfl dX2_comesBefore_62 ?_
    refine z_icmp_eq (pc := 64) (tgt := 82) hX (by decide) (by omega) (by omega) dX2_comesBefore_64 (fun c_6 => ?_) (fun c_6 => ?_)
    · refine z_iload (pc := 82) hX 3 rfl dX2_comesBefore_82 ?_
      refine z_iload (pc := 84) hX 2 rfl dX2_comesBefore_84 ?_
      refine z_icmp_le (pc := 86) (tgt := 93) hX (by decide) (by omega) (by omega) dX2_comesBefore_86 (fun c_7 => ?_) (fun c_7 => ?_)
      · refine z_iconst (pc := 93) hX dX2_comesBefore_93 ?_
        exact ex _ _ _ () _ dX2_comesBefore_94 (by first | decide +kernel | exact nar_b) (zb0 (by rw [cbB_t]; clear ex hX; grind)) rfl
      · refine z_iconst (pc := 89) hX dX2_comesBefore_89 ?_
        refine z_goto (pc := 90) (tgt := 94) hX (by decide) dX2_comesBefore_90 ?_
        exact ex _ _ _ () _ dX2_comesBefore_94 (by first | decide +kernel | exact nar_b) (zb1 (by rw [cbB_t]; clear ex hX; grind)) rfl
    · refine z_iload (pc := 67) hX 1 rfl dX2_comesBefore_67 ?_
      refine z_iload (pc := 69) hX 0 rfl dX2_comesBefore_69 ?_
      refine z_icmp_le (pc := 71) (tgt := 78) hX (by decide) (by omega) (by omega) dX2_comesBefore_71 (fun c_8 => ?_) (fun c_8 => ?_)
      · refine z_iconst (pc := 78) hX dX2_comesBefore_78 ?_
        refine z_goto (pc := 79) (tgt := 94) hX (by decide) dX2_comesBefore_79 ?_
        exact ex _ _ _ () _ dX2_comesBefore_94 (by first | decide +kernel | exact nar_b) (zb0 (by rw [cbB_t]; clear ex hX; grind)) rfl
      · refine z_iconst (pc := 74) hX dX2_comesBefore_74 ?_
        refine z_goto (pc := 75) (tgt := 94) hX (by decide) dX2_comesBefore_75 ?_
        exact ex _ _ _ () _ dX2_comesBefore_94 (by first | decide +kernel | exact nar_b) (zb1 (by rw [cbB_t]; clear ex hX; grind)) rfl
  · refine z_iload (pc := 27) hX 1 rfl dX2_comesBefore_27 ?_
    refine z_iload (pc := 29) hX 0 rfl dX2_comesBefore_29 ?_
    refine z_icmp_ge (pc := 31) (tgt := 38) hX (by decide) (by omega) (by omega) dX2_comesBefore_31 (fun c_9 => ?_) (fun c_9 => ?_)
    · refine z_iconst (pc := 38) hX dX2_comesBefore_38 ?_
      refine z_at [0, 1, 2, 3, 4, 5] [0, 1, 3, 2] (loc' := [(5, .int (iI (Ar q))), (4, .int (iI (Ar p))), (0, .ref k), (1, .ref y), (2, .int (iI (p))), (3, .int (iI (q)))]) (WS' := [(k, .inr (2, [.int (iI (bI (ff = true))), .ref kp, .int (iI (sz))])), (y, .inr (0, [.ref ys, .ref yb, .ref ye, .ref yl, .ref yg, .ref ya, .ref yh, .ref yd, .ref yi, .int (iI (im)), .int (iI (ps)), .int (iI (fs)), .int (iI (wd)), .int (iI (rl)), .int (iI (wa)), .int (iI (sn)), .int (iI (al))])), (ya, zI G 20 (Ar)), (yh, zI G 20 (Sh))]) rfl (by decide) rfl ?_
      exact ex _ _ _ () _ dX2_comesBefore_39 (by first | decide +kernel | exact nar_b) (zb0 (by rw [cbB_t]; clear ex hX; grind)) rfl
    · refine z_iconst (pc := 34) hX dX2_comesBefore_34 ?_
      refine z_goto (pc := 35) (tgt := 39) hX (by decide) dX2_comesBefore_35 ?_
      refine z_at [0, 1, 2, 3, 4, 5] [0, 1, 3, 2] (loc' := [(5, .int (iI (Ar q))), (4, .int (iI (Ar p))), (0, .ref k), (1, .ref y), (2, .int (iI (p))), (3, .int (iI (q)))]) (WS' := [(k, .inr (2, [.int (iI (bI (ff = true))), .ref kp, .int (iI (sz))])), (y, .inr (0, [.ref ys, .ref yb, .ref ye, .ref yl, .ref yg, .ref ya, .ref yh, .ref yd, .ref yi, .int (iI (im)), .int (iI (ps)), .int (iI (fs)), .int (iI (wd)), .int (iI (rl)), .int (iI (wa)), .int (iI (sn)), .int (iI (al))])), (ya, zI G 20 (Ar)), (yh, zI G 20 (Sh))]) rfl (by decide) rfl ?_
      exact ex _ _ _ () _ dX2_comesBefore_39 (by first | decide +kernel | exact nar_b) (zb1 (by rw [cbB_t]; clear ex hX; grind)) rfl
theorem hX2_enter_X2 : ∀ w ∈ wsX20, w ∈ wsX2_enter := by decide +kernel
theorem hdX2_comesBefore : yX2_comesBefore.cls ≠ "java/lang/invoke/MethodHandle" ∧ yX2_comesBefore.cls ≠ "java/lang/invoke/VarHandle" ∧ (parseMethodDescriptor yX2_comesBefore.desc).map (fun d => d.parameters.length) = some 3 := by decide +kernel
theorem kX2_enter_f19 : Cond.fieldLink RX2 19 "SignLetters$Ranking" "size" "I" ∈ wsX2_enter := by decide +kernel
theorem kX2_enter_f9 : Cond.fieldLink RX2 9 "SignLetters$Ranking" "places" "[I" ∈ wsX2_enter := by decide +kernel
theorem kX2_enter_inX5 : Cond.initialized RX5 ∈ wsX2_enter := by decide +kernel
theorem kX2_enter_stX5_store : Cond.static yX5_store ∈ wsX2_enter := by decide +kernel
theorem kX2_enter_stX5_valueAt : Cond.static yX5_valueAt ∈ wsX2_enter := by decide +kernel
set_option maxHeartbeats 400000 in
set_option maxRecDepth 100000 in
theorem mX2_enter (G : ZG) (k : Nat) (kp : Nat) (ff : Bool) (sz : Int) (y : Nat) (ys : Nat) (yb : Nat) (ye : Nat) (yl : Nat) (yg : Nat) (ya : Nat) (yh : Nat) (yd : Nat) (yi : Nat) (im : Int) (ps : Int) (fs : Int) (wd : Int) (rl : Int) (wa : Int) (sn : Int) (al : Int) (Ar : Int → Int) (Sh : Int → Int) (P : Int → Int) (p : Int) (him : 0 ≤ im ∧ im ≤ 20) (rA : ∀ j : Int, 0 ≤ j → j < im → -1 ≤ Ar j ∧ Ar j ≤ 400) (rS : ∀ j : Int, 0 ≤ j → j < im → -1 ≤ Sh j ∧ Sh j ≤ 40000) (hp : 0 ≤ p ∧ p < im) (hz : 0 ≤ sz ∧ sz < 20) (hP : ∀ r : Int, 0 ≤ r → r < sz → 0 ≤ P r ∧ P r < im) : zMetv yX2_enter wsX2_enter { frames := 2, cells := 0, slots := 0, locals := 48 } G [.ref k, .ref y, .int (iI (p))] [(k, .inr (2, [.int (iI (bI (ff = true))), .ref kp, .int (iI (sz))])), (kp, zI G 20 (P)), (y, .inr (0, [.ref ys, .ref yb, .ref ye, .ref yl, .ref yg, .ref ya, .ref yh, .ref yd, .ref yi, .int (iI (im)), .int (iI (ps)), .int (iI (fs)), .int (iI (wd)), .int (iI (rl)), .int (iI (wa)), .int (iI (sn)), .int (iI (al))])), (ya, zI G 20 (Ar)), (yh, zI G 20 (Sh))] (fun (uu : (Int → Int) × (Int)) => (0 ≤ uu.2 ∧ uu.2 ≤ sz) ∧ (∀ r : Int, uu.2 ≤ r → r < sz → cbB ff Ar Sh p (P r) = true) ∧ (uu.2 = 0 ∨ ¬ cbB ff Ar Sh p (P (uu.2 - 1)) = true) ∧ (∀ r : Int, 0 ≤ r → r ≤ sz → uu.1 r = if r < uu.2 then P r else if r = uu.2 then p else P (r - 1))) (fun (uu : (Int → Int) × (Int)) => [(k, .inr (2, [.int (iI (bI (ff = true))), .ref kp, .int (iI (sz + 1))])), (kp, zI G 20 (uu.1)), (y, .inr (0, [.ref ys, .ref yb, .ref ye, .ref yl, .ref yg, .ref ya, .ref yh, .ref yd, .ref yi, .int (iI (im)), .int (iI (ps)), .int (iI (fs)), .int (iI (wd)), .int (iI (rl)), .int (iI (wa)), .int (iI (sn)), .int (iI (al))])), (ya, zI G 20 (Ar)), (yh, zI G 20 (Sh))]) 0 0 := by
  refine z_metv (cc := cX2_enter) (nL := 6) (by decide +kernel) rfl (Nat.le_of_ble_eq_true rfl) (fun X hX ex => ?_)
  have hX : ZOk G X 6 cX2_enter RX2 wsX2_enter { frames := 2, cells := 0, slots := 0, locals := 48 } := hX
  show Z G X 6 (0) (0) [(k, .inr (2, [.int (iI (bI (ff = true))), .ref kp, .int (iI (sz))])), (kp, zI G 20 (P)), (y, .inr (0, [.ref ys, .ref yb, .ref ye, .ref yl, .ref yg, .ref ya, .ref yh, .ref yd, .ref yi, .int (iI (im)), .int (iI (ps)), .int (iI (fs)), .int (iI (wd)), .int (iI (rl)), .int (iI (wa)), .int (iI (sn)), .int (iI (al))])), (ya, zI G 20 (Ar)), (yh, zI G 20 (Sh))] 0 [(0, .ref k), (1, .ref y), (2, .int (iI (p)))] []
  refine z_aload_n (pc := 0) hX 0 rfl rfl dX2_enter_0 ?_
  refine z_get (pc := 1) hX (T := TX2) (C := RX2) (N := 3) (i := 19) (ref := "SignLetters$Ranking") (name := "size") (desc := "I") hX2_enter_X2 0 rfl rfl 2 (by decide) kX2_enter_f19 ⟨rfl, rfl, rfl⟩ (v := .int (iI (sz))) rfl dX2_enter_1 ?_
  refine z_istore_n (pc := 4) hX (loc' := [(3, .int (iI (sz))), (0, .ref k), (1, .ref y), (2, .int (iI (p)))]) rfl (by decide) rfl dX2_enter_4 ?_
  refine z_aload_n (pc := 5) hX 1 rfl rfl dX2_enter_5 ?_
  refine z_get (pc := 6) hX (T := TX2) (C := RX2) (N := 3) (i := 19) (ref := "SignLetters$Ranking") (name := "size") (desc := "I") hX2_enter_X2 0 rfl rfl 2 (by decide) kX2_enter_f19 ⟨rfl, rfl, rfl⟩ (v := .int (iI (sz))) rfl dX2_enter_6 ?_
  refine z_iconst (pc := 9) hX dX2_enter_9 ?_
  refine z_isub (pc := 10) hX dX2_enter_10 ?_
  refine z_istore (pc := 11) hX (loc' := [(4, .int (iI (sz - 1))), (3, .int (iI (sz))), (0, .ref k), (1, .ref y), (2, .int (iI (p)))]) (by decide) rfl dX2_enter_11 ?_
  have cut_13 : ∀ (fz : Nat) (z : Int) (P1 : Int → Int) (g0 : -1 ≤ z) (g1 : z < sz) (g2 : ∀ r : Int, z < r → r < sz → cbB ff Ar Sh p (P r) = true) (g3 : ∀ r : Int, r ≤ z → P1 r = P r) (g4 : ∀ r : Int, z + 1 < r → r ≤ sz → P1 r = P (r - 1)) (hm_13 : z + 1 < (fz : Int)), Z G X 6 (0) (0) [(k, .inr (2, [.int (iI (bI (ff = true))), .ref kp, .int (iI (sz))])), (kp, zI G 20 (P1)), (y, .inr (0, [.ref ys, .ref yb, .ref ye, .ref yl, .ref yg, .ref ya, .ref yh, .ref yd, .ref yi, .int (iI (im)), .int (iI (ps)), .int (iI (fs)), .int (iI (wd)), .int (iI (rl)), .int (iI (wa)), .int (iI (sn)), .int (iI (al))])), (ya, zI G 20 (Ar)), (yh, zI G 20 (Sh))] 13 [(0, .ref k), (1, .ref y), (2, .int (iI (p))), (3, .int (iI (z + 1))), (4, .int (iI (z)))] [] := by
    intro fz
    induction fz with
    | zero =>
      intro z P1 g0 g1 g2 g3 g4 hm_13
      exfalso
      omega
    | succ fz ih =>
      intro z P1 g0 g1 g2 g3 g4 hm_13
      have ih_13 := ih
      clear ih
      have cut_62 : ∀ (c : Int) (P1 : Int → Int) (hc : 0 ≤ c ∧ c ≤ sz) (h1 : ∀ r : Int, c ≤ r → r < sz → cbB ff Ar Sh p (P r) = true) (h2 : c = 0 ∨ ¬ cbB ff Ar Sh p (P (c - 1)) = true) (h3 : ∀ r : Int, 0 ≤ r → r ≤ sz → P1 r = if r < c then P r else if r = c then P1 c else P (r - 1)), Z G X 6 (0) (0) [(k, .inr (2, [.int (iI (bI (ff = true))), .ref kp, .int (iI (sz))])), (kp, zI G 20 (P1)), (y, .inr (0, [.ref ys, .ref yb, .ref ye, .ref yl, .ref yg, .ref ya, .ref yh, .ref yd, .ref yi, .int (iI (im)), .int (iI (ps)), .int (iI (fs)), .int (iI (wd)), .int (iI (rl)), .int (iI (wa)), .int (iI (sn)), .int (iI (al))])), (ya, zI G 20 (Ar)), (yh, zI G 20 (Sh))] 62 [(0, .ref k), (1, .ref y), (2, .int (iI (p))), (3, .int (iI (c)))] [] := by
        intro c P1 hc h1 h2 h3
        refine z_aload_n (pc := 62) hX 0 rfl rfl dX2_enter_62 ?_
        refine z_get (pc := 63) hX (T := TX2) (C := RX2) (N := 3) (i := 9) (ref := "SignLetters$Ranking") (name := "places") (desc := "[I") hX2_enter_X2 0 rfl rfl 1 (by decide) kX2_enter_f9 ⟨rfl, rfl, rfl⟩ (v := .ref kp) rfl dX2_enter_63 ?_
        refine z_iload_n (pc := 66) hX 3 rfl rfl dX2_enter_66 ?_
        refine z_iload_n (pc := 67) hX 2 rfl rfl dX2_enter_67 ?_
        refine z_callSN_v (pc := 68) (As := [.ref kp, .int (iI (c)), .int (iI (p))]) (rest := []) (wc := [(kp, zI G 20 (P1))]) (wr := [(k, .inr (2, [.int (iI (bI (ff = true))), .ref kp, .int (iI (sz))])), (y, .inr (0, [.ref ys, .ref yb, .ref ye, .ref yl, .ref yg, .ref ya, .ref yh, .ref yd, .ref yi, .int (iI (im)), .int (iI (ps)), .int (iI (fs)), .int (iI (wd)), .int (iI (rl)), .int (iI (wa)), .int (iI (sn)), .int (iI (al))])), (ya, zI G 20 (Ar)), (yh, zI G 20 (Sh))]) hX (mX5_store G (kp) (20) (P1) (c) (p) (by first | assumption | omega | (clear ex hX ih_13; grind [uZ])) (by first | assumption | omega | (clear ex hX ih_13; grind [uZ]))) rfl rfl rfl gX2_enter_X5_store_n44 hdX5_store (by decide +kernel) kX2_enter_inX5 kX2_enter_stX5_store ⟨Nat.le_of_ble_eq_true rfl, Nat.le_of_ble_eq_true rfl⟩ [1] [0, 2, 3, 4] rfl rfl (by decide) (by decide) (by decide) rfl (Nat.le_of_ble_eq_true rfl) ⟨Nat.le_of_ble_eq_true rfl, Nat.le_of_ble_eq_true rfl⟩ dX2_enter_68 (fun u_1 h_1 => ?_)
        show Z G X 6 (0) (0) [(k, .inr (2, [.int (iI (bI (ff = true))), .ref kp, .int (iI (sz))])), (y, .inr (0, [.ref ys, .ref yb, .ref ye, .ref yl, .ref yg, .ref ya, .ref yh, .ref yd, .ref yi, .int (iI (im)), .int (iI (ps)), .int (iI (fs)), .int (iI (wd)), .int (iI (rl)), .int (iI (wa)), .int (iI (sn)), .int (iI (al))])), (ya, zI G 20 (Ar)), (yh, zI G 20 (Sh)), (kp, zI G 20 (uZ P1 c p))] 71 [(0, .ref k), (1, .ref y), (2, .int (iI (p))), (3, .int (iI (c)))] []
        refine z_aload_n (pc := 71) hX 0 rfl rfl dX2_enter_71 ?_
        refine z_dup (pc := 72) hX rfl dX2_enter_72 ?_
        refine z_get (pc := 73) hX (T := TX2) (C := RX2) (N := 3) (i := 19) (ref := "SignLetters$Ranking") (name := "size") (desc := "I") hX2_enter_X2 0 rfl rfl 2 (by decide) kX2_enter_f19 ⟨rfl, rfl, rfl⟩ (v := .int (iI (sz))) rfl dX2_enter_73 ?_
        refine z_iconst (pc := 76) hX dX2_enter_76 ?_
        refine z_iadd (pc := 77) hX dX2_enter_77 ?_
        refine z_put (pc := 78) hX (T := TX2) (C := RX2) (N := 3) (i := 19) (ref := "SignLetters$Ranking") (name := "size") (desc := "I") (WS' := [(k, .inr (2, [.int (iI (bI (ff = true))), .ref kp, .int (iI (sz + 1))])), (y, .inr (0, [.ref ys, .ref yb, .ref ye, .ref yl, .ref yg, .ref ya, .ref yh, .ref yd, .ref yi, .int (iI (im)), .int (iI (ps)), .int (iI (fs)), .int (iI (wd)), .int (iI (rl)), .int (iI (wa)), .int (iI (sn)), .int (iI (al))])), (ya, zI G 20 (Ar)), (yh, zI G 20 (Sh)), (kp, zI G 20 (uZ P1 c p))]) tyX2 tyX2_ok nmX2 hX2_enter_X2 0 rfl rfl 2 (by decide) kX2_enter_f19 ⟨rfl, rfl, rfl⟩ rfl (ty := .int) (by decide +kernel) rfl rfl (Nat.le_of_ble_eq_true rfl) rfl dX2_enter_78 ?_
        refine z_at [0, 1, 2, 3] [0, 4, 1, 2, 3] (loc' := [(0, .ref k), (1, .ref y), (2, .int (iI (p))), (3, .int (iI (c)))]) (WS' := [(k, .inr (2, [.int (iI (bI (ff = true))), .ref kp, .int (iI (sz + 1))])), (kp, zI G 20 (uZ P1 c p)), (y, .inr (0, [.ref ys, .ref yb, .ref ye, .ref yl, .ref yg, .ref ya, .ref yh, .ref yd, .ref yi, .int (iI (im)), .int (iI (ps)), .int (iI (fs)), .int (iI (wd)), .int (iI (rl)), .int (iI (wa)), .int (iI (sn)), .int (iI (al))])), (ya, zI G 20 (Ar)), (yh, zI G 20 (Sh))]) rfl (by decide) rfl ?_
        exact ex _ _ ((uZ P1 c p), (c)) _ dX2_enter_81 ⟨(by first | assumption | omega | (clear ex hX ih_13; grind [uZ])), (by exact h1), (by exact h2), (by intro r r0 r1; have := h3 r r0 r1; clear ex hX ih_13; grind [uZ])⟩ rfl
      refine z_iload (pc := 13) hX 4 rfl dX2_enter_13 ?_
      refine z_if_lt (pc := 15) (tgt := 62) hX (by decide) (by omega) dX2_enter_15 (fun c_2 => ?_) (fun c_2 => ?_)
      · refine z_at [0, 1, 2, 3] [0, 1, 2, 3, 4] (loc' := [(0, .ref k), (1, .ref y), (2, .int (iI (p))), (3, .int (iI ((z + 1))))]) (WS' := [(k, .inr (2, [.int (iI (bI (ff = true))), .ref kp, .int (iI (sz))])), (kp, zI G 20 (P1)), (y, .inr (0, [.ref ys, .ref yb, .ref ye, .ref yl, .ref yg, .ref ya, .ref yh, .ref yd, .ref yi, .int (iI (im)), .int (iI (ps)), .int (iI (fs)), .int (iI (wd)), .int (iI (rl)), .int (iI (wa)), .int (iI (sn)), .int (iI (al))])), (ya, zI G 20 (Ar)), (yh, zI G 20 (Sh))]) rfl (by decide) rfl ?_
        exact cut_62 (z + 1) (P1) (by first | assumption | omega | (clear ex hX ih_13 cut_62; grind [uZ])) (by first | assumption | omega | (clear ex hX ih_13 cut_62; grind [uZ])) (by first | (left; omega) | (right; rw [show z + 1 - 1 = z by omega, ← g3 z (by omega)]; assumption)) (by intro r r0 r1; have := g3 r; have := g4 r; clear ex hX ih_13 cut_62; grind)
      · have hPz := hP z (by omega) (by omega)
        have hPz2 := g3 z (by omega)
        refine z_aload_n (pc := 18) hX 0 rfl rfl dX2_enter_18 ?_
        refine z_get (pc := 19) hX (T := TX2) (C := RX2) (N := 3) (i := 9) (ref := "SignLetters$Ranking") (name := "places") (desc := "[I") hX2_enter_X2 0 rfl rfl 1 (by decide) kX2_enter_f9 ⟨rfl, rfl, rfl⟩ (v := .ref kp) rfl dX2_enter_19 ?_
        refine z_iload (pc := 22) hX 4 rfl dX2_enter_22 ?_
        refine z_callSN_i (pc := 24) (As := [.ref kp, .int (iI (z))]) (rest := []) (wc := [(kp, zI G 20 (P1))]) (wr := [(k, .inr (2, [.int (iI (bI (ff = true))), .ref kp, .int (iI (sz))])), (y, .inr (0, [.ref ys, .ref yb, .ref ye, .ref yl, .ref yg, .ref ya, .ref yh, .ref yd, .ref yi, .int (iI (im)), .int (iI (ps)), .int (iI (fs)), .int (iI (wd)), .int (iI (rl)), .int (iI (wa)), .int (iI (sn)), .int (iI (al))])), (ya, zI G 20 (Ar)), (yh, zI G 20 (Sh))]) hX (mX5_valueAt G (kp) (20) (P1) (z) (by first | assumption | omega | (clear ex hX ih_13 cut_62; grind [uZ])) (by first | assumption | omega | (clear ex hX ih_13 cut_62; grind [uZ]))) rfl rfl rfl gX2_enter_X5_valueAt_n36 hdX5_valueAt (by decide +kernel) kX2_enter_inX5 kX2_enter_stX5_valueAt ⟨Nat.le_of_ble_eq_true rfl, Nat.le_of_ble_eq_true rfl⟩ [1] [0, 2, 3, 4] rfl rfl (by decide) (by decide) (by decide) rfl (Nat.le_of_ble_eq_true rfl) ⟨Nat.le_of_ble_eq_true rfl, Nat.le_of_ble_eq_true rfl⟩ dX2_enter_24 (fun r_3 u_3 h_3 => ?_)
        subst h_3
        show Z G X 6 (0) (0) [(k, .inr (2, [.int (iI (bI (ff = true))), .ref kp, .int (iI (sz))])), (y, .inr (0, [.ref ys, .ref yb, .ref ye, .ref yl, .ref yg, .ref ya, .ref yh, .ref yd, .ref yi, .int (iI (im)), .int (iI (ps)), .int (iI (fs)), .int (iI (wd)), .int (iI (rl)), .int (iI (wa)), .int (iI (sn)), .int (iI (al))])), (ya, zI G 20 (Ar)), (yh, zI G 20 (Sh)), (kp, zI G 20 (P1))] 27 [(0, .ref k), (1, .ref y), (2, .int (iI (p))), (3, .int (iI (z + 1))), (4, .int (iI (z)))] [.int (iI (P1 z))]
        refine z_istore (pc := 27) hX (loc' := [(5, .int (iI (P1 z))), (0, .ref k), (1, .ref y), (2, .int (iI (p))), (3, .int (iI (z + 1))), (4, .int (iI (z)))]) (by decide) rfl dX2_enter_27 ?_
        refine z_aload_n (pc := 29) hX 1 rfl rfl dX2_enter_29 ?_
        refine z_aload_n (pc := 30) hX 2 rfl rfl dX2_enter_30 ?_
        refine z_iload_n (pc := 31) hX 3 rfl rfl dX2_enter_31 ?_
        refine z_iload (pc := 32) hX 0 rfl dX2_enter_32 ?_
        refine z_callV_i (pc := 34) (As := [.ref y, .int (iI (p)), .int (iI (P1 z))]) (rest := []) (wc := [(k, .inr (2, [.int (iI (bI (ff = true))), .ref kp, .int (iI (sz))])), (y, .inr (0, [.ref ys, .ref yb, .ref ye, .ref yl, .ref yg, .ref ya, .ref yh, .ref yd, .ref yi, .int (iI (im)), .int (iI (ps)), .int (iI (fs)), .int (iI (wd)), .int (iI (rl)), .int (iI (wa)), .int (iI (sn)), .int (iI (al))])), (ya, zI G 20 (Ar)), (yh, zI G 20 (Sh))]) (wr := [(kp, zI G 20 (P1))]) hX (mX2_comesBefore G (k) (kp) (ff) (sz) (y) (ys) (yb) (ye) (yl) (yg) (ya) (yh) (yd) (yi) (im) (ps) (fs) (wd) (rl) (wa) (sn) (al) (Ar) (Sh) (p) (P1 z) (by first | assumption | omega | (clear ex hX ih_13 cut_62; grind [uZ])) (by first | assumption | omega | (clear ex hX ih_13 cut_62; grind [uZ])) (by first | assumption | omega | (clear ex hX ih_13 cut_62; grind [uZ])) (by first | assumption | omega | (clear ex hX ih_13 cut_62; grind [uZ])) (by first | assumption | omega | (clear ex hX ih_13 cut_62; grind [uZ]))) rfl rfl rfl (C := RX2) gX2_enter_X2_comesBefore ⟨rfl, hdX2_comesBefore⟩ (T := TX2) (N := 3) 0 rfl rfl ⟨Nat.le_of_ble_eq_true rfl, Nat.le_of_ble_eq_true rfl⟩ [0, 1, 2, 3] [4] rfl rfl (by decide) (by decide) (by decide) rfl (Nat.le_of_ble_eq_true rfl) ⟨Nat.le_of_ble_eq_true rfl, Nat.le_of_ble_eq_true rfl⟩ dX2_enter_34 (fun r_4 u_4 h_4 => ?_)
        subst h_4
        show Z G X 6 (0) (0) [(kp, zI G 20 (P1)), (k, .inr (2, [.int (iI (bI (ff = true))), .ref kp, .int (iI (sz))])), (y, .inr (0, [.ref ys, .ref yb, .ref ye, .ref yl, .ref yg, .ref ya, .ref yh, .ref yd, .ref yi, .int (iI (im)), .int (iI (ps)), .int (iI (fs)), .int (iI (wd)), .int (iI (rl)), .int (iI (wa)), .int (iI (sn)), .int (iI (al))])), (ya, zI G 20 (Ar)), (yh, zI G 20 (Sh))] 37 [(5, .int (iI (P1 z))), (0, .ref k), (1, .ref y), (2, .int (iI (p))), (3, .int (iI (z + 1))), (4, .int (iI (z)))] [.int (iI (bI (cbB ff Ar Sh p (P1 z) = true)))]
        refine z_bif_ne (pc := 37) (tgt := 43) hX (by decide) dX2_enter_37 (fun c_5 => ?_) (fun c_5 => ?_)
        · refine z_aload_n (pc := 43) hX 1 rfl rfl dX2_enter_43 ?_
          refine z_get (pc := 44) hX (T := TX2) (C := RX2) (N := 3) (i := 9) (ref := "SignLetters$Ranking") (name := "places") (desc := "[I") hX2_enter_X2 1 rfl rfl 1 (by decide) kX2_enter_f9 ⟨rfl, rfl, rfl⟩ (v := .ref kp) rfl dX2_enter_44 ?_
          refine z_iload_n (pc := 47) hX 4 rfl rfl dX2_enter_47 ?_
          refine z_iload (pc := 48) hX 0 rfl dX2_enter_48 ?_
          refine z_callSN_v (pc := 50) (As := [.ref kp, .int (iI (z + 1)), .int (iI (P1 z))]) (rest := []) (wc := [(kp, zI G 20 (P1))]) (wr := [(k, .inr (2, [.int (iI (bI (ff = true))), .ref kp, .int (iI (sz))])), (y, .inr (0, [.ref ys, .ref yb, .ref ye, .ref yl, .ref yg, .ref ya, .ref yh, .ref yd, .ref yi, .int (iI (im)), .int (iI (ps)), .int (iI (fs)), .int (iI (wd)), .int (iI (rl)), .int (iI (wa)), .int (iI (sn)), .int (iI (al))])), (ya, zI G 20 (Ar)), (yh, zI G 20 (Sh))]) hX (mX5_store G (kp) (20) (P1) (z + 1) (P1 z) (by first | assumption | omega | (clear ex hX ih_13 cut_62; grind [uZ])) (by first | assumption | omega | (clear ex hX ih_13 cut_62; grind [uZ]))) rfl rfl rfl gX2_enter_X5_store_n44 hdX5_store (by decide +kernel) kX2_enter_inX5 kX2_enter_stX5_store ⟨Nat.le_of_ble_eq_true rfl, Nat.le_of_ble_eq_true rfl⟩ [0] [1, 2, 3, 4] rfl rfl (by decide) (by decide) (by decide) rfl (Nat.le_of_ble_eq_true rfl) ⟨Nat.le_of_ble_eq_true rfl, Nat.le_of_ble_eq_true rfl⟩ dX2_enter_50 (fun u_6 h_6 => ?_)
          show Z G X 6 (0) (0) [(k, .inr (2, [.int (iI (bI (ff = true))), .ref kp, .int (iI (sz))])), (y, .inr (0, [.ref ys, .ref yb, .ref ye, .ref yl, .ref yg, .ref ya, .ref yh, .ref yd, .ref yi, .int (iI (im)), .int (iI (ps)), .int (iI (fs)), .int (iI (wd)), .int (iI (rl)), .int (iI (wa)), .int (iI (sn)), .int (iI (al))])), (ya, zI G 20 (Ar)), (yh, zI G 20 (Sh)), (kp, zI G 20 (uZ P1 (z + 1) (P1 z)))] 53 [(5, .int (iI (P1 z))), (0, .ref k), (1, .ref y), (2, .int (iI (p))), (3, .int (iI (z + 1))), (4, .int (iI (z)))] []
          refine z_iload (pc := 53) hX 5 rfl dX2_enter_53 ?_
          refine z_istore_n (pc := 55) hX (loc' := [(3, .int (iI (z))), (5, .int (iI (P1 z))), (0, .ref k), (1, .ref y), (2, .int (iI (p))), (4, .int (iI (z)))]) rfl (by decide) rfl dX2_enter_55 ?_
          refine z_iinc (pc := 56) hX (loc' := [(4, .int (iI (z + (-1)))), (3, .int (iI (z))), (5, .int (iI (P1 z))), (0, .ref k), (1, .ref y), (2, .int (iI (p)))]) 5 rfl (by decide) rfl dX2_enter_56 ?_
          refine z_goto (pc := 59) (tgt := 13) hX (by decide) dX2_enter_59 ?_
          refine (congrArg (fun z_ : Int => Z G X 6 (0) (0) [(k, .inr (2, [.int (iI (bI (ff = true))), .ref kp, .int (iI (sz))])), (y, .inr (0, [.ref ys, .ref yb, .ref ye, .ref yl, .ref yg, .ref ya, .ref yh, .ref yd, .ref yi, .int (iI (im)), .int (iI (ps)), .int (iI (fs)), .int (iI (wd)), .int (iI (rl)), .int (iI (wa)), .int (iI (sn)), .int (iI (al))])), (ya, zI G 20 (Ar)), (yh, zI G 20 (Sh)), (kp, zI G 20 (uZ P1 (z + 1) (P1 z)))] 13 [(4, .int (iI (z + (-1)))), (3, .int (iI (z_))), (5, .int (iI (P1 z))), (0, .ref k), (1, .ref y), (2, .int (iI (p)))] []) (show (z : Int) = (z + (-1)) + 1 from by omega)).mpr ?_
          refine z_at [3, 4, 5, 1, 0] [0, 4, 1, 2, 3] (loc' := [(0, .ref k), (1, .ref y), (2, .int (iI (p))), (3, .int (iI ((z + (-1)) + 1))), (4, .int (iI ((z + (-1)))))]) (WS' := [(k, .inr (2, [.int (iI (bI (ff = true))), .ref kp, .int (iI (sz))])), (kp, zI G 20 ((uZ P1 (z + 1) (P1 z)))), (y, .inr (0, [.ref ys, .ref yb, .ref ye, .ref yl, .ref yg, .ref ya, .ref yh, .ref yd, .ref yi, .int (iI (im)), .int (iI (ps)), .int (iI (fs)), .int (iI (wd)), .int (iI (rl)), .int (iI (wa)), .int (iI (sn)), .int (iI (al))])), (ya, zI G 20 (Ar)), (yh, zI G 20 (Sh))]) rfl (by decide) rfl ?_
          exact ih_13 (z + (-1)) (uZ P1 (z + 1) (P1 z)) (by first | assumption | omega | (clear ex hX ih_13 cut_62; grind [uZ])) (by first | assumption | omega | (clear ex hX ih_13 cut_62; grind [uZ])) (by intro r r0 r1; by_cases e9 : r = z; (rw [e9, ← g3 z (by omega)]; assumption); exact g2 r (by omega) r1) (by intro r r0; rw [uZ_ne (by omega)]; exact g3 r (by omega)) (by intro r r0 r1; by_cases e9 : r = z + 1; (rw [e9, uZ_at, show z + 1 - 1 = z by omega]; exact g3 z (by omega)); (rw [uZ_ne e9]; exact g4 r (by omega) r1)) (by omega)
        · refine z_goto (pc := 40) (tgt := 62) hX (by decide) dX2_enter_40 ?_
          refine z_at [1, 2, 3, 4] [1, 0, 2, 3, 4] (loc' := [(0, .ref k), (1, .ref y), (2, .int (iI (p))), (3, .int (iI ((z + 1))))]) (WS' := [(k, .inr (2, [.int (iI (bI (ff = true))), .ref kp, .int (iI (sz))])), (kp, zI G 20 (P1)), (y, .inr (0, [.ref ys, .ref yb, .ref ye, .ref yl, .ref yg, .ref ya, .ref yh, .ref yd, .ref yi, .int (iI (im)), .int (iI (ps)), .int (iI (fs)), .int (iI (wd)), .int (iI (rl)), .int (iI (wa)), .int (iI (sn)), .int (iI (al))])), (ya, zI G 20 (Ar)), (yh, zI G 20 (Sh))]) rfl (by decide) rfl ?_
          exact cut_62 (z + 1) (P1) (by first | assumption | omega | (clear ex hX ih_13 cut_62; grind [uZ])) (by first | assumption | omega | (clear ex hX ih_13 cut_62; grind [uZ])) (by first | (left; omega) | (right; rw [show z + 1 - 1 = z by omega, ← g3 z (by omega)]; assumption)) (by intro r r0 r1; have := g3 r; have := g4 r; clear ex hX ih_13 cut_62; grind)
  refine (congrArg (fun z_ : Int => Z G X 6 (0) (0) [(k, .inr (2, [.int (iI (bI (ff = true))), .ref kp, .int (iI (sz))])), (kp, zI G 20 (P)), (y, .inr (0, [.ref ys, .ref yb, .ref ye, .ref yl, .ref yg, .ref ya, .ref yh, .ref yd, .ref yi, .int (iI (im)), .int (iI (ps)), .int (iI (fs)), .int (iI (wd)), .int (iI (rl)), .int (iI (wa)), .int (iI (sn)), .int (iI (al))])), (ya, zI G 20 (Ar)), (yh, zI G 20 (Sh))] 13 [(4, .int (iI (sz - 1))), (3, .int (iI (z_))), (0, .ref k), (1, .ref y), (2, .int (iI (p)))] []) (show (sz : Int) = (sz - 1) + 1 from by omega)).mpr ?_
  refine z_at [2, 3, 4, 1, 0] [0, 1, 2, 3, 4] (loc' := [(0, .ref k), (1, .ref y), (2, .int (iI (p))), (3, .int (iI ((sz - 1) + 1))), (4, .int (iI ((sz - 1))))]) (WS' := [(k, .inr (2, [.int (iI (bI (ff = true))), .ref kp, .int (iI (sz))])), (kp, zI G 20 (P)), (y, .inr (0, [.ref ys, .ref yb, .ref ye, .ref yl, .ref yg, .ref ya, .ref yh, .ref yd, .ref yi, .int (iI (im)), .int (iI (ps)), .int (iI (fs)), .int (iI (wd)), .int (iI (rl)), .int (iI (wa)), .int (iI (sn)), .int (iI (al))])), (ya, zI G 20 (Ar)), (yh, zI G 20 (Sh))]) rfl (by decide) rfl ?_
  exact cut_13 (Int.toNat ((sz - 1) + 1) + 1) (sz - 1) (P) (by first | assumption | omega | (clear ex hX cut_13; grind [uZ])) (by first | assumption | omega | (clear ex hX cut_13; grind [uZ])) (by intro r r0 r1; omega) (by intro r r0; rfl) (by intro r r0 r1; omega) (by omega)
theorem hX2_rank_X0 : ∀ w ∈ wsX00, w ∈ wsX2_rank := by decide +kernel
theorem hX2_rank_X2 : ∀ w ∈ wsX20, w ∈ wsX2_rank := by decide +kernel
theorem hdX2_enter : yX2_enter.cls ≠ "java/lang/invoke/MethodHandle" ∧ yX2_enter.cls ≠ "java/lang/invoke/VarHandle" ∧ (parseMethodDescriptor yX2_enter.desc).map (fun d => d.parameters.length) = some 2 := by decide +kernel
theorem kX2_rank_f19 : Cond.fieldLink RX2 19 "SignLetters$Ranking" "size" "I" ∈ wsX2_rank := by decide +kernel
set_option maxHeartbeats 400000 in
set_option maxRecDepth 100000 in
theorem mX2_rank (G : ZG) (k : Nat) (kp : Nat) (ff : Bool) (sz : Int) (y : Nat) (ys : Nat) (yb : Nat) (ye : Nat) (yl : Nat) (yg : Nat) (ya : Nat) (yh : Nat) (yd : Nat) (yi : Nat) (im : Int) (ps : Int) (fs : Int) (wd : Int) (rl : Int) (wa : Int) (sn : Int) (al : Int) (Gp : Int → Int) (Ar : Int → Int) (Sh : Int → Int) (P : Int → Int) (him : 0 ≤ im ∧ im ≤ 20) (hG : ∀ j : Int, 0 ≤ j → j < im → -1 ≤ Gp j ∧ Gp j ≤ 1000) (rA : ∀ j : Int, 0 ≤ j → j < im → -1 ≤ Ar j ∧ Ar j ≤ 400) (rS : ∀ j : Int, 0 ≤ j → j < im → -1 ≤ Sh j ∧ Sh j ≤ 40000) : zMetv yX2_rank wsX2_rank { frames := 3, cells := 0, slots := 0, locals := 73 } G [.ref k, .ref y] [(k, .inr (2, [.int (iI (bI (ff = true))), .ref kp, .int (iI (sz))])), (kp, zI G 20 (P)), (y, .inr (0, [.ref ys, .ref yb, .ref ye, .ref yl, .ref yg, .ref ya, .ref yh, .ref yd, .ref yi, .int (iI (im)), .int (iI (ps)), .int (iI (fs)), .int (iI (wd)), .int (iI (rl)), .int (iI (wa)), .int (iI (sn)), .int (iI (al))])), (yg, zI G 20 (Gp)), (ya, zI G 20 (Ar)), (yh, zI G 20 (Sh))] (fun (uu : (Int → Int)) => rkOk (fun j : Int => decide (0 < j ∧ Gp j ≠ -1)) (ahB ff Ar Sh) im uu) (fun (uu : (Int → Int)) => [(k, .inr (2, [.int (iI (bI (ff = true))), .ref kp, .int (iI (pcS (fun j : Int => decide (0 < j ∧ Gp j ≠ -1)) im))])), (kp, zI G 20 (uu)), (y, .inr (0, [.ref ys, .ref yb, .ref ye, .ref yl, .ref yg, .ref ya, .ref yh, .ref yd, .ref yi, .int (iI (im)), .int (iI (ps)), .int (iI (fs)), .int (iI (wd)), .int (iI (rl)), .int (iI (wa)), .int (iI (sn)), .int (iI (al))])), (yg, zI G 20 (Gp)), (ya, zI G 20 (Ar)), (yh, zI G 20 (Sh))]) 0 0 := by
  refine z_metv (cc := cX2_rank) (nL := 3) (by decide +kernel) rfl (Nat.le_of_ble_eq_true rfl) (fun X hX ex => ?_)
  have hX : ZOk G X 3 cX2_rank RX2 wsX2_rank { frames := 3, cells := 0, slots := 0, locals := 73 } := hX
  show Z G X 3 (0) (0) [(k, .inr (2, [.int (iI (bI (ff = true))), .ref kp, .int (iI (sz))])), (kp, zI G 20 (P)), (y, .inr (0, [.ref ys, .ref yb, .ref ye, .ref yl, .ref yg, .ref ya, .ref yh, .ref yd, .ref yi, .int (iI (im)), .int (iI (ps)), .int (iI (fs)), .int (iI (wd)), .int (iI (rl)), .int (iI (wa)), .int (iI (sn)), .int (iI (al))])), (yg, zI G 20 (Gp)), (ya, zI G 20 (Ar)), (yh, zI G 20 (Sh))] 0 [(0, .ref k), (1, .ref y)] []
  refine z_aload_n (pc := 0) hX 0 rfl rfl dX2_rank_0 ?_
  refine z_iconst (pc := 1) hX dX2_rank_1 ?_
  refine z_put (pc := 2) hX (T := TX2) (C := RX2) (N := 3) (i := 19) (ref := "SignLetters$Ranking") (name := "size") (desc := "I") (WS' := [(k, .inr (2, [.int (iI (bI (ff = true))), .ref kp, .int (iI (0))])), (kp, zI G 20 (P)), (y, .inr (0, [.ref ys, .ref yb, .ref ye, .ref yl, .ref yg, .ref ya, .ref yh, .ref yd, .ref yi, .int (iI (im)), .int (iI (ps)), .int (iI (fs)), .int (iI (wd)), .int (iI (rl)), .int (iI (wa)), .int (iI (sn)), .int (iI (al))])), (yg, zI G 20 (Gp)), (ya, zI G 20 (Ar)), (yh, zI G 20 (Sh))]) tyX2 tyX2_ok nmX2 hX2_rank_X2 0 rfl rfl 2 (by decide) kX2_rank_f19 ⟨rfl, rfl, rfl⟩ rfl (ty := .int) (by decide +kernel) rfl rfl (Nat.le_of_ble_eq_true rfl) rfl dX2_rank_2 ?_
  refine z_iconst (pc := 5) hX dX2_rank_5 ?_
  refine z_istore_n (pc := 6) hX (loc' := [(2, .int (iI (0))), (0, .ref k), (1, .ref y)]) rfl (by decide) rfl dX2_rank_6 ?_
  have cut_7 : ∀ (fz : Nat) (i : Int) (P1 : Int → Int) (h0 : 0 ≤ i) (h1 : i ≤ im) (hR : rkOk (fun j : Int => decide (0 < j ∧ Gp j ≠ -1)) (ahB ff Ar Sh) i P1) (hm_7 : im - i < (fz : Int)), Z G X 3 (0) (0) [(k, .inr (2, [.int (iI (bI (ff = true))), .ref kp, .int (iI (pcS (fun j : Int => decide (0 < j ∧ Gp j ≠ -1)) i))])), (kp, zI G 20 (P1)), (y, .inr (0, [.ref ys, .ref yb, .ref ye, .ref yl, .ref yg, .ref ya, .ref yh, .ref yd, .ref yi, .int (iI (im)), .int (iI (ps)), .int (iI (fs)), .int (iI (wd)), .int (iI (rl)), .int (iI (wa)), .int (iI (sn)), .int (iI (al))])), (yg, zI G 20 (Gp)), (ya, zI G 20 (Ar)), (yh, zI G 20 (Sh))] 7 [(0, .ref k), (1, .ref y), (2, .int (iI (i)))] [] := by
    intro fz
    induction fz with
    | zero =>
      intro i P1 h0 h1 hR hm_7
      exfalso
      omega
    | succ fz ih =>
      intro i P1 h0 h1 hR hm_7
      have ih_7 := ih
      clear ih
      refine z_iload_n (pc := 7) hX 2 rfl rfl dX2_rank_7 ?_
      refine z_aload_n (pc := 8) hX 1 rfl rfl dX2_rank_8 ?_
      refine z_getN (pc := 9) hX (T := TX0) (C := RX0) (N := 17) (i := 23) (ref := RX0) (name := "items") (desc := "I") hX2_rank_X0 2 rfl rfl 9 (by decide) (by decide +kernel) ⟨rfl, rfl, rfl⟩ (v := .int (iI (im))) rfl dX2_rank_9 ?_
      refine z_icmp_ge (pc := 12) (tgt := 35) hX (by decide) (by omega) (by omega) dX2_rank_12 (fun c_1 => ?_) (fun c_1 => ?_)
      · refine (congrArg (fun z_ : Int => Z G X 3 (0) (0) [(k, .inr (2, [.int (iI (bI (ff = true))), .ref kp, .int (iI (z_))])), (kp, zI G 20 (P1)), (y, .inr (0, [.ref ys, .ref yb, .ref ye, .ref yl, .ref yg, .ref ya, .ref yh, .ref yd, .ref yi, .int (iI (im)), .int (iI (ps)), .int (iI (fs)), .int (iI (wd)), .int (iI (rl)), .int (iI (wa)), .int (iI (sn)), .int (iI (al))])), (yg, zI G 20 (Gp)), (ya, zI G 20 (Ar)), (yh, zI G 20 (Sh))] 35 [(0, .ref k), (1, .ref y), (2, .int (iI (i)))] []) (show (pcS (fun j : Int => decide (0 < j ∧ Gp j ≠ -1)) i : Int) = pcS (fun j : Int => decide (0 < j ∧ Gp j ≠ -1)) im from by rw [show i = im by omega])).mpr ?_
        exact ex _ _ (P1) _ dX2_rank_35 (by rw [← show i = im by omega]; exact hR) rfl
      · have hpc := pcS_r (pr := (fun j : Int => decide (0 < j ∧ Gp j ≠ -1))) h0
        refine z_aload_n (pc := 15) hX 1 rfl rfl dX2_rank_15 ?_
        refine z_iload_n (pc := 16) hX 2 rfl rfl dX2_rank_16 ?_
        refine z_callV_i (pc := 17) (As := [.int (iI (i))]) (rest := []) (wc := [(y, .inr (0, [.ref ys, .ref yb, .ref ye, .ref yl, .ref yg, .ref ya, .ref yh, .ref yd, .ref yi, .int (iI (im)), .int (iI (ps)), .int (iI (fs)), .int (iI (wd)), .int (iI (rl)), .int (iI (wa)), .int (iI (sn)), .int (iI (al))])), (yg, zI G 20 (Gp))]) (wr := [(k, .inr (2, [.int (iI (bI (ff = true))), .ref kp, .int (iI (pcS (fun j : Int => decide (0 < j ∧ Gp j ≠ -1)) i))])), (kp, zI G 20 (P1)), (ya, zI G 20 (Ar)), (yh, zI G 20 (Sh))]) hX (mX0_isPair G (y) (ys) (yb) (ye) (yl) (yg) (ya) (yh) (yd) (yi) (im) (ps) (fs) (wd) (rl) (wa) (sn) (al) (Gp) (i) (by first | assumption | omega | (clear ex hX ih_7; grind [uZ])) (by first | assumption | omega | (clear ex hX ih_7; grind [uZ])) (by first | assumption | omega | (clear ex hX ih_7; grind [uZ]))) rfl rfl rfl (C := RX0) gX2_rank_X0_isPair ⟨rfl, hdX0_isPair⟩ (T := TX0) (N := 17) 0 rfl rfl ⟨Nat.le_of_ble_eq_true rfl, Nat.le_of_ble_eq_true rfl⟩ [2, 3] [0, 1, 4, 5] rfl rfl (by decide) (by decide) (by decide) rfl (Nat.le_of_ble_eq_true rfl) ⟨Nat.le_of_ble_eq_true rfl, Nat.le_of_ble_eq_true rfl⟩ dX2_rank_17 (fun r_2 u_2 h_2 => ?_)
        subst h_2
        show Z G X 3 (0) (0) [(k, .inr (2, [.int (iI (bI (ff = true))), .ref kp, .int (iI (pcS (fun j : Int => decide (0 < j ∧ Gp j ≠ -1)) i))])), (kp, zI G 20 (P1)), (ya, zI G 20 (Ar)), (yh, zI G 20 (Sh)), (y, .inr (0, [.ref ys, .ref yb, .ref ye, .ref yl, .ref yg, .ref ya, .ref yh, .ref yd, .ref yi, .int (iI (im)), .int (iI (ps)), .int (iI (fs)), .int (iI (wd)), .int (iI (rl)), .int (iI (wa)), .int (iI (sn)), .int (iI (al))])), (yg, zI G 20 (Gp))] 20 [(0, .ref k), (1, .ref y), (2, .int (iI (i)))] [.int (iI (bI ((0 < i ∧ i < im) ∧ Gp i ≠ -1)))]
        refine z_bif_eq (pc := 20) (tgt := 29) hX (by decide) dX2_rank_20 (fun c_3 => ?_) (fun c_3 => ?_)
        · refine z_iinc (pc := 29) hX (loc' := [(2, .int (iI (i + 1))), (0, .ref k), (1, .ref y)]) 2 rfl (by decide) rfl dX2_rank_29 ?_
          refine z_goto (pc := 32) (tgt := 7) hX (by decide) dX2_rank_32 ?_
          refine (congrArg (fun z_ : Int => Z G X 3 (0) (0) [(k, .inr (2, [.int (iI (bI (ff = true))), .ref kp, .int (iI (z_))])), (kp, zI G 20 (P1)), (ya, zI G 20 (Ar)), (yh, zI G 20 (Sh)), (y, .inr (0, [.ref ys, .ref yb, .ref ye, .ref yl, .ref yg, .ref ya, .ref yh, .ref yd, .ref yi, .int (iI (im)), .int (iI (ps)), .int (iI (fs)), .int (iI (wd)), .int (iI (rl)), .int (iI (wa)), .int (iI (sn)), .int (iI (al))])), (yg, zI G 20 (Gp))] 7 [(2, .int (iI (i + 1))), (0, .ref k), (1, .ref y)] []) (show (pcS (fun j : Int => decide (0 < j ∧ Gp j ≠ -1)) i : Int) = pcS (fun j : Int => decide (0 < j ∧ Gp j ≠ -1)) (i + 1) from by first | rfl | exact hin.1.symm | exact (rkOk_no h0 hR (by simp only [decide_eq_true_iff]; omega)).1.symm)).mpr ?_
          refine z_at [1, 2, 0] [0, 1, 4, 5, 2, 3] (loc' := [(0, .ref k), (1, .ref y), (2, .int (iI ((i + 1))))]) (WS' := [(k, .inr (2, [.int (iI (bI (ff = true))), .ref kp, .int (iI (pcS (fun j : Int => decide (0 < j ∧ Gp j ≠ -1)) (i + 1)))])), (kp, zI G 20 (P1)), (y, .inr (0, [.ref ys, .ref yb, .ref ye, .ref yl, .ref yg, .ref ya, .ref yh, .ref yd, .ref yi, .int (iI (im)), .int (iI (ps)), .int (iI (fs)), .int (iI (wd)), .int (iI (rl)), .int (iI (wa)), .int (iI (sn)), .int (iI (al))])), (yg, zI G 20 (Gp)), (ya, zI G 20 (Ar)), (yh, zI G 20 (Sh))]) rfl (by decide) rfl ?_
          exact ih_7 (i + 1) (P1) (by first | assumption | omega | (clear ex hX ih_7; grind [uZ])) (by first | assumption | omega | (clear ex hX ih_7; grind [uZ])) (by first | exact hin.2 | exact (rkOk_no h0 hR (by simp only [decide_eq_true_iff]; omega)).2) (by omega)
        · refine z_aload_n (pc := 23) hX 0 rfl rfl dX2_rank_23 ?_
          refine z_aload_n (pc := 24) hX 1 rfl rfl dX2_rank_24 ?_
          refine z_iload_n (pc := 25) hX 2 rfl rfl dX2_rank_25 ?_
          refine z_callV_v (pc := 26) (As := [.ref y, .int (iI (i))]) (rest := []) (wc := [(k, .inr (2, [.int (iI (bI (ff = true))), .ref kp, .int (iI ((pcS (fun j : Int => decide (0 < j ∧ Gp j ≠ -1)) i)))])), (kp, zI G 20 (P1)), (y, .inr (0, [.ref ys, .ref yb, .ref ye, .ref yl, .ref yg, .ref ya, .ref yh, .ref yd, .ref yi, .int (iI (im)), .int (iI (ps)), .int (iI (fs)), .int (iI (wd)), .int (iI (rl)), .int (iI (wa)), .int (iI (sn)), .int (iI (al))])), (ya, zI G 20 (Ar)), (yh, zI G 20 (Sh))]) (wr := [(yg, zI G 20 (Gp))]) hX (mX2_enter G (k) (kp) (ff) (pcS (fun j : Int => decide (0 < j ∧ Gp j ≠ -1)) i) (y) (ys) (yb) (ye) (yl) (yg) (ya) (yh) (yd) (yi) (im) (ps) (fs) (wd) (rl) (wa) (sn) (al) (Ar) (Sh) (P1) (i) (by first | assumption | omega | (clear ex hX ih_7; grind [uZ])) (by first | assumption | omega | (clear ex hX ih_7; grind [uZ])) (by first | assumption | omega | (clear ex hX ih_7; grind [uZ])) (by first | assumption | omega | (clear ex hX ih_7; grind [uZ])) (by first | assumption | omega | (clear ex hX ih_7; grind [uZ])) (by intro r r0 r1; have := hR r r0 r1; omega)) rfl rfl rfl (C := RX2) gX2_rank_X2_enter ⟨rfl, hdX2_enter⟩ (T := TX2) (N := 3) 0 rfl rfl ⟨Nat.le_of_ble_eq_true rfl, Nat.le_of_ble_eq_true rfl⟩ [0, 1, 4, 2, 3] [5] rfl rfl (by decide) (by decide) (by decide) rfl (Nat.le_of_ble_eq_true rfl) ⟨Nat.le_of_ble_eq_true rfl, Nat.le_of_ble_eq_true rfl⟩ dX2_rank_26 (fun u_4 h_4 => ?_)
          obtain ⟨P2_4, c_4⟩ := u_4
          try dsimp only at h_4
          obtain ⟨hc_4, h1_4, h2_4, h3_4⟩ := h_4
          have hin := rkOk_in (pr := (fun j : Int => decide (0 < j ∧ Gp j ≠ -1))) (ah := (ahB ff Ar Sh)) (P2 := P2_4) (fun p => ahB_irr) (fun p q r => ahB_tr) (fun p q => ahB_tot) h0 hR (by simp only [decide_eq_true_iff]; omega) hc_4 (fun r r0 r1 => (ahB_cb (by have := hR r (by omega) r1; omega)).mpr (h1_4 r r0 r1)) (h2_4.elim Or.inl (fun q => by by_cases e9 : c_4 = 0; exact Or.inl e9; exact Or.inr (fun w => q ((ahB_cb (by have := hR (c_4 - 1) (by omega) (by omega); omega)).mp w)))) h3_4
          show Z G X 3 (0) (0) [(yg, zI G 20 (Gp)), (k, .inr (2, [.int (iI (bI (ff = true))), .ref kp, .int (iI ((pcS (fun j : Int => decide (0 < j ∧ Gp j ≠ -1)) i) + 1))])), (kp, zI G 20 (P2_4)), (y, .inr (0, [.ref ys, .ref yb, .ref ye, .ref yl, .ref yg, .ref ya, .ref yh, .ref yd, .ref yi, .int (iI (im)), .int (iI (ps)), .int (iI (fs)), .int (iI (wd)), .int (iI (rl)), .int (iI (wa)), .int (iI (sn)), .int (iI (al))])), (ya, zI G 20 (Ar)), (yh, zI G 20 (Sh))] 29 [(0, .ref k), (1, .ref y), (2, .int (iI (i)))] []
          refine z_iinc (pc := 29) hX (loc' := [(2, .int (iI (i + 1))), (0, .ref k), (1, .ref y)]) 2 rfl (by decide) rfl dX2_rank_29 ?_
          refine z_goto (pc := 32) (tgt := 7) hX (by decide) dX2_rank_32 ?_
          refine (congrArg (fun z_ : Int => Z G X 3 (0) (0) [(yg, zI G 20 (Gp)), (k, .inr (2, [.int (iI (bI (ff = true))), .ref kp, .int (iI (z_))])), (kp, zI G 20 (P2_4)), (y, .inr (0, [.ref ys, .ref yb, .ref ye, .ref yl, .ref yg, .ref ya, .ref yh, .ref yd, .ref yi, .int (iI (im)), .int (iI (ps)), .int (iI (fs)), .int (iI (wd)), .int (iI (rl)), .int (iI (wa)), .int (iI (sn)), .int (iI (al))])), (ya, zI G 20 (Ar)), (yh, zI G 20 (Sh))] 7 [(2, .int (iI (i + 1))), (0, .ref k), (1, .ref y)] []) (show ((pcS (fun j : Int => decide (0 < j ∧ Gp j ≠ -1)) i) + 1 : Int) = pcS (fun j : Int => decide (0 < j ∧ Gp j ≠ -1)) (i + 1) from by first | rfl | exact hin.1.symm | exact (rkOk_no h0 hR (by simp only [decide_eq_true_iff]; omega)).1.symm)).mpr ?_
          refine z_at [1, 2, 0] [1, 2, 3, 0, 4, 5] (loc' := [(0, .ref k), (1, .ref y), (2, .int (iI ((i + 1))))]) (WS' := [(k, .inr (2, [.int (iI (bI (ff = true))), .ref kp, .int (iI (pcS (fun j : Int => decide (0 < j ∧ Gp j ≠ -1)) (i + 1)))])), (kp, zI G 20 (P2_4)), (y, .inr (0, [.ref ys, .ref yb, .ref ye, .ref yl, .ref yg, .ref ya, .ref yh, .ref yd, .ref yi, .int (iI (im)), .int (iI (ps)), .int (iI (fs)), .int (iI (wd)), .int (iI (rl)), .int (iI (wa)), .int (iI (sn)), .int (iI (al))])), (yg, zI G 20 (Gp)), (ya, zI G 20 (Ar)), (yh, zI G 20 (Sh))]) rfl (by decide) rfl ?_
          exact ih_7 (i + 1) (P2_4) (by first | assumption | omega | (clear ex hX ih_7; grind [uZ])) (by first | assumption | omega | (clear ex hX ih_7; grind [uZ])) (by first | exact hin.2 | exact (rkOk_no h0 hR (by simp only [decide_eq_true_iff]; omega)).2) (by omega)
  refine (congrArg (fun z_ : Int => Z G X 3 (0) (0) [(k, .inr (2, [.int (iI (bI (ff = true))), .ref kp, .int (iI (z_))])), (kp, zI G 20 (P)), (y, .inr (0, [.ref ys, .ref yb, .ref ye, .ref yl, .ref yg, .ref ya, .ref yh, .ref yd, .ref yi, .int (iI (im)), .int (iI (ps)), .int (iI (fs)), .int (iI (wd)), .int (iI (rl)), .int (iI (wa)), .int (iI (sn)), .int (iI (al))])), (yg, zI G 20 (Gp)), (ya, zI G 20 (Ar)), (yh, zI G 20 (Sh))] 7 [(2, .int (iI (0))), (0, .ref k), (1, .ref y)] []) (show (0 : Int) = pcS (fun j : Int => decide (0 < j ∧ Gp j ≠ -1)) 0 from by first | rfl | exact hin.1.symm | exact (rkOk_no h0 hR (by simp only [decide_eq_true_iff]; omega)).1.symm)).mpr ?_
  refine z_at [1, 2, 0] [0, 1, 2, 3, 4, 5] (loc' := [(0, .ref k), (1, .ref y), (2, .int (iI (0)))]) (WS' := [(k, .inr (2, [.int (iI (bI (ff = true))), .ref kp, .int (iI (pcS (fun j : Int => decide (0 < j ∧ Gp j ≠ -1)) 0))])), (kp, zI G 20 (P)), (y, .inr (0, [.ref ys, .ref yb, .ref ye, .ref yl, .ref yg, .ref ya, .ref yh, .ref yd, .ref yi, .int (iI (im)), .int (iI (ps)), .int (iI (fs)), .int (iI (wd)), .int (iI (rl)), .int (iI (wa)), .int (iI (sn)), .int (iI (al))])), (yg, zI G 20 (Gp)), (ya, zI G 20 (Ar)), (yh, zI G 20 (Sh))]) rfl (by decide) rfl ?_
  exact cut_7 (Int.toNat (im - 0) + 1) (0) (P) (by first | assumption | omega | (clear ex hX cut_7; grind [uZ])) (by first | assumption | omega | (clear ex hX cut_7; grind [uZ])) (by intro r r0 r1; exact absurd r1 (Int.not_lt.mpr r0)) (by omega)
