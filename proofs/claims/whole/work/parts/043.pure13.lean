/-! ===== pure: the model's faults, pairs, extremes ===== -/
theorem fsM_eq {E F K : Int → Int} {n p : Int} (hE : okE E) (hK : okK K n) (hp : 0 ≤ p ∧ p < n) : fsF E F K n p = if arA E F K n p ≠ -1 ∧ E 5 < shS (E 3) (arA E F K n p) then 1 else 0 := by
  unfold fsF fsP
  by_cases q : prS F n p = true
  · have r := agP_r (F := F) (w := enA E F K n p) hE hK hp
    rw [if_pos q, arA_t q]
    show (if E 5 < shS (E 3) (agP E F K n p (enA E F K n p)) then 1 else 0) = _
    by_cases z : E 5 < shS (E 3) (agP E F K n p (enA E F K n p))
    · rw [if_pos z, if_pos ⟨by omega, z⟩]
    · rw [if_neg z, if_neg (fun w => z w.2)]
  · rw [if_neg q, arA_f q, if_neg (fun w => w.1 rfl)]
theorem arA_ne {E F K : Int → Int} {n p : Int} (hE : okE E) (hK : okK K n) (hp : 0 ≤ p ∧ p < n) : arA E F K n p ≠ -1 ↔ prS F n p = true := by
  by_cases h : prS F n p = true
  · rw [arA_t h]; have := agP_r (F := F) (w := enA E F K n p) hE hK hp
    exact ⟨fun _ => h, fun _ => by omega⟩
  · rw [arA_f h]; exact ⟨fun q => absurd rfl q, fun q => absurd q h⟩
theorem psM_eq {E F K : Int → Int} {n p : Int} (hE : okE E) (hK : okK K n) (hp : 0 ≤ p ∧ p < n) : psF F n p = if arA E F K n p ≠ -1 then 1 else 0 := by
  unfold psF psP
  by_cases q : prS F n p = true
  · rw [if_pos q, if_pos ((arA_ne hE hK hp).mpr q)]
  · rw [if_neg q, if_neg (fun w => q ((arA_ne hE hK hp).mp w))]
theorem cntM_eq {F : Int → Int} {n p : Int} (hp : 0 ≤ p ∧ p < n) : cntF F p = if letA F n p ≠ -1 then 1 else 0 := by
  unfold cntF
  rw [letA_i hp]
  by_cases q : F p = -1
  · rw [if_pos q, if_neg (fun w => w q)]
  · rw [if_neg q, if_pos q]
theorem cut_ex (b : Int → Bool) : ∀ m : Nat, ∃ c : Int, (0 ≤ c ∧ c ≤ (m : Int)) ∧ (∀ r : Int, c ≤ r → r < (m : Int) → b r = true) ∧ (c = 0 ∨ ¬ b (c - 1) = true)
  | 0 => ⟨0, ⟨by omega, by omega⟩, fun r h0 h1 => by omega, Or.inl rfl⟩
  | m + 1 => by
    by_cases q : b (m : Int) = true
    · obtain ⟨c, h0, h1, h2⟩ := cut_ex b m
      refine ⟨c, ⟨h0.1, by omega⟩, fun r r0 r1 => ?_, h2⟩
      by_cases e : r = (m : Int)
      · rw [e]; exact q
      · exact h1 r r0 (by omega)
    · exact ⟨(m : Int) + 1, ⟨by omega, by omega⟩, fun r h0 h1 => by omega, Or.inr (by rw [show (m : Int) + 1 - 1 = m by omega]; exact q)⟩
theorem rk_ex {ff : Bool} {Ar Sh : Int → Int} (pr : Int → Bool) : ∀ n : Nat, ∃ P : Int → Int, rkOk pr (ahB ff Ar Sh) (n : Int) P
  | 0 => ⟨fun _ => 0, fun r r0 r1 => absurd r1 (Int.not_lt.mpr r0)⟩
  | n + 1 => by
    obtain ⟨P, h⟩ := rk_ex (ff := ff) (Ar := Ar) (Sh := Sh) pr n
    have e : (((n + 1 : Nat)) : Int) = (n : Int) + 1 := by omega
    rw [e]
    by_cases q : pr (n : Int) = true
    · have rg := pcS_r (pr := pr) (i := (n : Int)) (by omega)
      obtain ⟨c, c0, c1, c2⟩ := cut_ex (fun r => ahB ff Ar Sh (n : Int) (P r)) (pcS pr (n : Int)).toNat
      have em : (((pcS pr (n : Int)).toNat : Nat) : Int) = pcS pr (n : Int) := by omega
      rw [em] at c0 c1
      exact ⟨fun r => if r < c then P r else if r = c then (n : Int) else P (r - 1), (rkOk_in (P2 := fun r => if r < c then P r else if r = c then (n : Int) else P (r - 1)) (fun p => ahB_irr) (fun p q r => ahB_tr) (fun p q => ahB_tot) (by omega) h q c0 c1 c2 (fun r _ _ => rfl)).2⟩
    · exact ⟨P, (rkOk_no (by omega) h q).2⟩
theorem rk_ex2 (ff : Bool) (E F K : Int → Int) {n : Int} (hn : 0 ≤ n) : ∃ P : Int → Int, rkOk (prS F n) (ahB ff (arA E F K n) (shA E F K n)) n P := by
  obtain ⟨P, h⟩ := rk_ex (ff := ff) (Ar := arA E F K n) (Sh := shA E F K n) (prS F n) n.toNat
  have e : ((n.toNat : Nat) : Int) = n := by omega
  rw [e] at h
  exact ⟨P, h⟩
theorem rkV_ok {ff : Bool} {E F K : Int → Int} {n r : Int} (hn : 0 ≤ n) (h0 : 0 ≤ r) (h1 : r < psN F n) : (0 ≤ rkV ff E F K n r ∧ rkV ff E F K n r < n) ∧ prS F n (rkV ff E F K n r) = true ∧ cnS (prS F n) (ahB ff (arA E F K n) (shA E F K n)) n (rkV ff E F K n r) = r := by
  obtain ⟨P, h⟩ := rk_ex2 ff E F K hn
  have e := rkV_in h h0 h1
  have q := h r h0 (by rw [← psN_pc]; exact h1)
  rw [e] at q
  exact q
/-- the best of the areas below i, the least or the greatest; -1: there is none -/
def exM (mo : Bool) (E F K : Int → Int) (n i b : Int) : Prop := (b = -1 ∧ ∀ j : Int, 0 ≤ j → j < i → ¬ prS F n j = true) ∨ ((∃ j : Int, (0 ≤ j ∧ j < i) ∧ prS F n j = true ∧ b = arA E F K n j) ∧ ∀ j : Int, 0 ≤ j → j < i → prS F n j = true → if mo = true then arA E F K n j ≤ b else b ≤ arA E F K n j)
theorem exM_0 (mo : Bool) (E F K : Int → Int) (n : Int) : exM mo E F K n 0 (-1) := Or.inl ⟨rfl, fun j h0 h1 => by omega⟩
theorem exM_no {mo : Bool} {E F K : Int → Int} {n i b : Int} (h : exM mo E F K n i b) (hp : ¬ prS F n i = true) : exM mo E F K n (i + 1) b := by
  rcases h with ⟨h1, h2⟩ | ⟨⟨j, hj, hp2, hb⟩, h2⟩
  · refine Or.inl ⟨h1, fun j j0 j1 => ?_⟩
    by_cases e : j = i
    · rw [e]; exact hp
    · exact h2 j j0 (by omega)
  · refine Or.inr ⟨⟨j, ⟨hj.1, by omega⟩, hp2, hb⟩, fun k k0 k1 kp => ?_⟩
    by_cases e : k = i
    · rw [e] at kp; exact absurd kp hp
    · exact h2 k k0 (by omega) kp
theorem exM_new {mo : Bool} {E F K : Int → Int} {n i b : Int} (hE : okE E) (hK : okK K n) (hi : 0 ≤ i ∧ i < n) (h : exM mo E F K n i b) (hp : prS F n i = true) (hc : b = -1 ∨ (if mo = true then b < arA E F K n i else arA E F K n i < b)) : exM mo E F K n (i + 1) (arA E F K n i) := by
  refine Or.inr ⟨⟨i, ⟨hi.1, by omega⟩, hp, rfl⟩, fun k k0 k1 kp => ?_⟩
  by_cases e : k = i
  · rw [e]; split <;> exact Int.le_refl _
  · rcases h with ⟨h1, h2⟩ | ⟨⟨j, hj, hp2, hb⟩, h2⟩
    · exact absurd kp (h2 k k0 (by omega))
    · have q := h2 k k0 (by omega) kp
      have bn : b ≠ -1 := by rw [hb]; exact (arA_ne hE hK (by omega)).mpr hp2
      have c2 := hc.resolve_left bn
      cases mo
      · rw [if_neg (by decide)] at *; omega
      · rw [if_pos rfl] at *; omega
theorem exM_old {mo : Bool} {E F K : Int → Int} {n i b : Int} (h : exM mo E F K n i b) (hb : b ≠ -1) (hc : ¬ (if mo = true then b < arA E F K n i else arA E F K n i < b)) : exM mo E F K n (i + 1) b := by
  rcases h with ⟨h1, h2⟩ | ⟨⟨j, hj, hp2, hb2⟩, h2⟩
  · exact absurd h1 hb
  · refine Or.inr ⟨⟨j, ⟨hj.1, by omega⟩, hp2, hb2⟩, fun k k0 k1 kp => ?_⟩
    by_cases e : k = i
    · rw [e]
      cases mo
      · rw [if_neg (by decide)] at *; omega
      · rw [if_pos rfl] at *; omega
    · exact h2 k k0 (by omega) kp
theorem exM_end {mo : Bool} {E F K : Int → Int} {n b : Int} (hn : 0 ≤ n) (h : exM mo E F K n n b) : b = if mo = true then mxS E F K n (rkV false E F K n) else mnS E F K n (rkV false E F K n) := by
  rcases h with ⟨h1, h2⟩ | ⟨⟨j, hj, hp2, hb⟩, h2⟩
  · have z : ¬ 0 < psN F n := fun w => by
      have q := rkV_ok (ff := false) (E := E) (K := K) hn (Int.le_refl 0) w
      exact h2 _ q.1.1 q.1.2 q.2.1
    unfold mxS mnS
    rw [if_neg z, if_neg z, h1]
    split <;> rfl
  · have z : 0 < psN F n := by
      have q := cnS_pl (ff := false) (Ar := arA E F K n) (Sh := shA E F K n) (pr := prS F n) hj hp2
      have q0 := cnS_0 (pr := prS F n) (ah := ahB false (arA E F K n) (shA E F K n)) (i := n) (k := j)
      rw [← psN_pc] at q
      omega
    unfold mxS mnS
    rw [if_pos z, if_pos z]
    have am : ∀ x y : Int, ahB false (arA E F K n) (shA E F K n) x y = true → arA E F K n x ≤ arA E F K n y := fun x y w => by
      rw [ahB_t] at w
      simp only [reduceCtorEq, false_and, not_false_eq_true, true_and, false_or] at w
      omega
    cases mo
    · rw [if_neg (by decide)]
      obtain ⟨q1, q2, q3⟩ := rkV_ok (ff := false) (E := E) (F := F) (K := K) (r := 0) hn (Int.le_refl 0) z
      have a := h2 _ q1.1 q1.2 q2
      rw [if_neg (by decide)] at a
      have b2 : arA E F K n (rkV false E F K n 0) ≤ arA E F K n j := by
        by_cases e : rkV false E F K n 0 = j
        · rw [e]; exact Int.le_refl _
        · rcases ahB_tot (ff := false) (Ar := arA E F K n) (Sh := shA E F K n) e with w | w
          · exact am _ _ w
          · have := cnS_lt (pr := prS F n) (ah := ahB false (arA E F K n) (shA E F K n)) (fun p => ahB_irr) (fun p q r => ahB_tr) hj hp2 w
            have q0 := cnS_0 (pr := prS F n) (ah := ahB false (arA E F K n) (shA E F K n)) (i := n) (k := j)
            omega
      omega
    · rw [if_pos rfl]
      obtain ⟨q1, q2, q3⟩ := rkV_ok (ff := false) (E := E) (F := F) (K := K) (r := psN F n - 1) hn (by omega) (by omega)
      have a := h2 _ q1.1 q1.2 q2
      rw [if_pos rfl] at a
      have b2 : arA E F K n j ≤ arA E F K n (rkV false E F K n (psN F n - 1)) := by
        by_cases e : j = rkV false E F K n (psN F n - 1)
        · rw [e]; exact Int.le_refl _
        · rcases ahB_tot (ff := false) (Ar := arA E F K n) (Sh := shA E F K n) e with w | w
          · exact am _ _ w
          · have w1 := cnS_lt (pr := prS F n) (ah := ahB false (arA E F K n) (shA E F K n)) (fun p => ahB_irr) (fun p q r => ahB_tr) q1 q2 w
            have w2 := cnS_pl (ff := false) (Ar := arA E F K n) (Sh := shA E F K n) (pr := prS F n) hj hp2
            rw [← psN_pc] at w2
            omega
      omega
/-- kerns in the model's order -/
def kO (k : Int) : Int := if k % 2 = 1 then (k + 1) / 2 else -(k / 2)
def nkP (h : Int → Int) : Nat → Int × Int
  | 0 => (0, h 0)
  | i + 1 => if h (kO ((i : Int) + 1)) < (nkP h i).2 then (kO ((i : Int) + 1), h (kO ((i : Int) + 1))) else nkP h i
theorem nkP_s (h : Int → Int) {k : Int} (hk : 1 ≤ k) : nkP h k.toNat = if h (kO k) < (nkP h (k - 1).toNat).2 then (kO k, h (kO k)) else nkP h (k - 1).toNat := by
  have e : k.toNat = (k - 1).toNat + 1 := by omega
  have e2 : (((k - 1).toNat : Nat) : Int) + 1 = k := by omega
  rw [e]
  simp only [nkP, e2]
theorem nkP_L (h : Int → Int) : ∀ s : Nat, nkP h (2 * s) = nkL h s
  | 0 => rfl
  | s + 1 => by
    have e1 : kO (((2 * s : Nat) : Int) + 1) = (s : Int) + 1 := by unfold kO; rw [if_pos (by omega)]; omega
    have e2 : kO (((2 * s + 1 : Nat) : Int) + 1) = -((s : Int) + 1) := by unfold kO; rw [if_neg (by omega)]; omega
    show nkP h (2 * s + 1 + 1) = nkL h (s + 1)
    simp only [nkP, nkL, e1, e2, nkP_L h s]
    split <;> rfl
theorem ahS_eq {ff : Bool} {E F K : Int → Int} {n p q : Int} (hp : prS F n p = true) (hq : prS F n q = true) : ahB ff (arA E F K n) (fun j => shS (E 3) (arA E F K n j)) p q = ahB ff (arA E F K n) (shA E F K n) p q :=
  ahB_c rfl rfl (by rw [shA_t hp, arA_t hp]; rfl) (by rw [shA_t hq, arA_t hq]; rfl)
