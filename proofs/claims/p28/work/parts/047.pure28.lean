/-! ===== p28: pure; these rows are whole's own ===== -/
theorem letA_i {F : Int → Int} {n j : Int} (h : 0 ≤ j ∧ j < n) : letA F n j = F j := if_pos h
theorem insZ_ok {F : Int → Int} {P : Int → Prop} {n p v : Int} (h : ∀ j : Int, 0 ≤ j → j < n → P (F j)) (hp : 0 ≤ p ∧ p ≤ n) (hv : P v) : ∀ j : Int, 0 ≤ j → j < n + 1 → P (insZ F p n v j) := by
  intro j h0 h1
  unfold insZ
  split
  · exact hv
  · split
    · exact h (j - 1) (by omega) (by omega)
    · exact h j h0 (by omega)
theorem remZ_ok {F : Int → Int} {P : Int → Prop} {n p : Int} (h : ∀ j : Int, 0 ≤ j → j < n → P (F j)) (hp : 0 ≤ p ∧ p < n) : ∀ j : Int, 0 ≤ j → j < n - 1 → P (remZ F p n j) := by
  intro j h0 h1
  unfold remZ
  split
  · exact h (j + 1) (by omega) (by omega)
  · exact h j h0 (by omega)
theorem uZ_ok {F : Int → Int} {P : Int → Prop} {n p v : Int} (h : ∀ j : Int, 0 ≤ j → j < n → P (F j)) (hv : P v) : ∀ j : Int, 0 ≤ j → j < n → P (uZ F p v j) := by
  intro j h0 h1
  unfold uZ
  split
  · exact hv
  · exact h j h0 h1
theorem arA_ne {E F K : Int → Int} {n p : Int} (hE : okE E) (hK : okK K n) (hp : 0 ≤ p ∧ p < n) : arA E F K n p ≠ -1 ↔ prS F n p = true := by
  by_cases h : prS F n p = true
  · rw [arA_t h]; have := agP_r (F := F) (w := enA E F K n p) hE hK hp
    exact ⟨fun _ => h, fun _ => by omega⟩
  · rw [arA_f h]; exact ⟨fun q => absurd rfl q, fun q => absurd q h⟩
theorem cut_ex (b : Int → Bool) : ∀ m : Nat, ∃ c : Int, (0 ≤ c ∧ c ≤ (m : Int)) ∧ (∀ r : Int, c ≤ r → r < (m : Int) → b r = true) ∧ (c = 0 ∨ ¬ b (c - 1) = true)
  | 0 => ⟨0, ⟨by omega, by omega⟩, fun r h0 h1 => by omega, Or.inl rfl⟩
  | m + 1 => by
    by_cases q : b (m : Int) = true
    · obtain ⟨c, h0, h1, h2⟩ := cut_ex b m
      refine ⟨c, ⟨h0.1, by omega⟩, fun r r0 r1 => ?_, h2⟩
      by_cases e : r = (m : Int)
      · rw [e]; exact q
      · exact h1 r r0 (by omega)
    · exact ⟨(m : Int) + 1, ⟨by omega, by omega⟩, fun r h0 h1 => by omega, Or.inr (by rw [show (m : Int) + 1 - 1 = m by omega]; exact q)⟩
theorem rk_ex {ff : Bool} {Ar Sh : Int → Int} (pr : Int → Bool) : ∀ n : Nat, ∃ P : Int → Int, rkOk pr (ahB ff Ar Sh) (n : Int) P
  | 0 => ⟨fun _ => 0, fun r r0 r1 => absurd r1 (Int.not_lt.mpr r0)⟩
  | n + 1 => by
    obtain ⟨P, h⟩ := rk_ex (ff := ff) (Ar := Ar) (Sh := Sh) pr n
    have e : (((n + 1 : Nat)) : Int) = (n : Int) + 1 := by omega
    rw [e]
    by_cases q : pr (n : Int) = true
    · have rg := pcS_r (pr := pr) (i := (n : Int)) (by omega)
      obtain ⟨c, c0, c1, c2⟩ := cut_ex (fun r => ahB ff Ar Sh (n : Int) (P r)) (pcS pr (n : Int)).toNat
      have em : (((pcS pr (n : Int)).toNat : Nat) : Int) = pcS pr (n : Int) := by omega
      rw [em] at c0 c1
      exact ⟨fun r => if r < c then P r else if r = c then (n : Int) else P (r - 1), (rkOk_in (P2 := fun r => if r < c then P r else if r = c then (n : Int) else P (r - 1)) (fun p => ahB_irr) (fun p q r => ahB_tr) (fun p q => ahB_tot) (by omega) h q c0 c1 c2 (fun r _ _ => rfl)).2⟩
    · exact ⟨P, (rkOk_no (by omega) h q).2⟩
theorem rk_ex2 (ff : Bool) (E F K : Int → Int) {n : Int} (hn : 0 ≤ n) : ∃ P : Int → Int, rkOk (prS F n) (ahB ff (arA E F K n) (shA E F K n)) n P := by
  obtain ⟨P, h⟩ := rk_ex (ff := ff) (Ar := arA E F K n) (Sh := shA E F K n) (prS F n) n.toNat
  have e : ((n.toNat : Nat) : Int) = n := by omega
  rw [e] at h
  exact ⟨P, h⟩
theorem rkV_ok {ff : Bool} {E F K : Int → Int} {n r : Int} (hn : 0 ≤ n) (h0 : 0 ≤ r) (h1 : r < psN F n) : (0 ≤ rkV ff E F K n r ∧ rkV ff E F K n r < n) ∧ prS F n (rkV ff E F K n r) = true ∧ cnS (prS F n) (ahB ff (arA E F K n) (shA E F K n)) n (rkV ff E F K n r) = r := by
  obtain ⟨P, h⟩ := rk_ex2 ff E F K hn
  have e := rkV_in h h0 h1
  have q := h r h0 (by rw [← psN_pc]; exact h1)
  rw [e] at q
  exact q
theorem evL_all : ∀ p : Fin 21, ∀ f : Fin 21, f.1 ≤ p.1 → Op.cmpValue (FP.dcmp (evD p.1 f.1) (evD p.1 f.1)) .l = iI 0 := by decide +kernel
theorem ev_l {p f : Int} (hp : 0 ≤ p ∧ p ≤ 20) (hf : 0 ≤ f ∧ f ≤ p) : Op.cmpValue (FP.dcmp (evD p f) (evD p f)) .l = iI 0 := by
  have h := evL_all ⟨p.toNat, by omega⟩ ⟨f.toNat, by omega⟩ (by show f.toNat ≤ p.toNat; omega)
  have e1 : ((p.toNat : Nat) : Int) = p := by omega
  have e2 : ((f.toNat : Nat) : Int) = f := by omega
  dsimp only at h
  rw [e1, e2] at h
  exact h
theorem bgA_no {E F K : Int → Int} {n p : Int} (hl : ¬ letA F n p ≠ -1) : enA E F K n p = bgA E F K n p := by
  unfold bgA bgP
  rw [if_neg (fun w => hl (prS_t.mp w).2), if_pos (Or.inl (Classical.not_not.mp hl))]
theorem gpA_bg {E F K : Int → Int} {n p : Int} (h : prS F n p = true) : bgA E F K n p - enA E F K n p = gpA E F K n p := by
  rw [gpA_t h]
  unfold bgA bgP
  rw [if_pos h]
  omega
/-! ===== p28: what the law's own methods answer ===== -/
def lwN (v n : Int) : Int := anI v 2147483647 % n
theorem lwN_r {v n : Int} (h : 0 < n) : 0 ≤ lwN v n ∧ lwN v n < n := ⟨Int.emod_nonneg _ (by omega), Int.emod_lt_of_pos _ h⟩
def vlN (q v : Int) : Int := if q = 0 then lwN v 5 else if q = 1 then 5 + lwN v 36 else if q = 2 then 1 + lwN v 30 else if q = 3 then 10 + lwN v 120 else if q = 4 then 1 + lwN v 12 else lwN v 60
theorem vlN_r {q v : Int} (h : 0 ≤ q ∧ q < 6) : zLs q ≤ vlN q v ∧ vlN q v ≤ zMs q := by
  have a0 := lwN_r (v := v) (n := 5) (by omega)
  have a1 := lwN_r (v := v) (n := 36) (by omega)
  have a2 := lwN_r (v := v) (n := 30) (by omega)
  have a3 := lwN_r (v := v) (n := 120) (by omega)
  have a4 := lwN_r (v := v) (n := 12) (by omega)
  have a5 := lwN_r (v := v) (n := 60) (by omega)
  rcases (show q = 0 ∨ q = 1 ∨ q = 2 ∨ q = 3 ∨ q = 4 ∨ q = 5 by omega) with rfl | rfl | rfl | rfl | rfl | rfl
  · exact ⟨show (0 : Int) ≤ lwN v 5 by omega, show lwN v 5 ≤ 4 by omega⟩
  · exact ⟨show (5 : Int) ≤ 5 + lwN v 36 by omega, show 5 + lwN v 36 ≤ 40 by omega⟩
  · exact ⟨show (1 : Int) ≤ 1 + lwN v 30 by omega, show 1 + lwN v 30 ≤ 30 by omega⟩
  · exact ⟨show (10 : Int) ≤ 10 + lwN v 120 by omega, show 10 + lwN v 120 ≤ 300 by omega⟩
  · exact ⟨show (1 : Int) ≤ 1 + lwN v 12 by omega, show 1 + lwN v 12 ≤ 12 by omega⟩
  · exact ⟨show (0 : Int) ≤ lwN v 60 by omega, show lwN v 60 ≤ 100 by omega⟩
def clN (L : Int) (xs : Nat → Int32) (k : Int) : Int := if k < L then sX xs k else 7919 * (k + 3) * (k + 11)
theorem clN_r {L : Int} {xs : Nat → Int32} {k : Int} (h : 0 ≤ k ∧ k < 64) : -2147483648 ≤ clN L xs k ∧ clN L xs k < 2147483648 := by
  have h1 := sX_r xs k
  unfold clN
  split
  · exact h1
  · have e : 7919 * (k + 3) * (k + 11) = 7919 * ((k + 3) * (k + 11)) := Int.mul_assoc _ _ _
    have h2 : 0 ≤ (k + 3) * (k + 11) := Int.mul_nonneg (by omega) (by omega)
    have h3 : (k + 3) * (k + 11) ≤ 66 * 74 := Int.mul_le_mul (by omega) (by omega) (by omega) (by omega)
    rw [e]
    omega
/-! what an item, what a count tells -/
section PI
variable {E F K : Int → Int} {n bd sz p : Int}
theorem it_0 : itS E F K n p 0 = letA F n p := rfl
theorem it_2 : itS E F K n p 2 = bgA E F K n p := rfl
theorem it_3 : itS E F K n p 3 = enA E F K n (p + 1) := rfl
theorem it_4 : itS E F K n p 4 = gpA E F K n p := by
  show (if prS F n p = true then gpA E F K n p else -1) = _
  by_cases h : prS F n p = true
  · rw [if_pos h]
  · rw [if_neg h, gpA_f h]
theorem it_5 : itS E F K n p 5 = arA E F K n p := by
  show (if prS F n p = true then arA E F K n p else -1) = _
  by_cases h : prS F n p = true
  · rw [if_pos h]
  · rw [if_neg h, arA_f h]
theorem it_6 : itS E F K n p 6 = arA E F K n p := by
  show (if prS F n p = true then arA E F K n p else -1) = _
  by_cases h : prS F n p = true
  · rw [if_pos h]
  · rw [if_neg h, arA_f h]
theorem it_7 : itS E F K n p 7 = shA E F K n p := by
  show (if prS F n p = true then shA E F K n p else -1) = _
  by_cases h : prS F n p = true
  · rw [if_pos h]
  · rw [if_neg h, shA_f h]
theorem it_8 (h : prS F n p = true) : itS E F K n p 8 = fsF E F K n p := by
  show (if prS F n p = true then fsF E F K n p else -1) = _
  rw [if_pos h]
def mgS (E F K : Int → Int) (n bd : Int) : Int := if enA E F K n n ≤ bd then (bd - enA E F K n n) / 2 else -1
theorem mgS_r (hbd : 50 ≤ bd ∧ bd ≤ 600) (h : 0 ≤ enA E F K n n) : (enA E F K n n ≤ bd ∧ 0 ≤ mgS E F K n bd ∧ mgS E F K n bd ≤ 600) ∨ (bd < enA E F K n n ∧ mgS E F K n bd = -1) := by
  unfold mgS
  split <;> omega
theorem ct_0 : lnV E F K n bd sz 0 = n := rfl
theorem ct_2 : lnV E F K n bd sz 2 = psN F n := rfl
theorem ct_3 : lnV E F K n bd sz 3 = fsN E F K n := rfl
theorem ct_4 : lnV E F K n bd sz 4 = enA E F K n n := rfl
theorem ct_5 : lnV E F K n bd sz 5 = mgS E F K n bd := rfl
theorem ct_6 : lnV E F K n bd sz 6 = bd := rfl
theorem ct_7 (h : 0 < psN F n) : lnV E F K n bd sz 7 = arA E F K n (rkV false E F K n 0) := by
  show (if 0 < psN F n then arA E F K n (rkV false E F K n 0) else -1) = _
  rw [if_pos h]
theorem ct_8 (h : 0 < psN F n) : lnV E F K n bd sz 8 = arA E F K n (rkV false E F K n (psN F n - 1)) := by
  show (if 0 < psN F n then arA E F K n (rkV false E F K n (psN F n - 1)) else -1) = _
  rw [if_pos h]
theorem ct_7n (h : ¬ 0 < psN F n) : lnV E F K n bd sz 7 = -1 := by
  show (if 0 < psN F n then arA E F K n (rkV false E F K n 0) else -1) = _
  rw [if_neg h]
theorem ct_8n (h : ¬ 0 < psN F n) : lnV E F K n bd sz 8 = -1 := by
  show (if 0 < psN F n then arA E F K n (rkV false E F K n (psN F n - 1)) else -1) = _
  rw [if_neg h]
theorem ct_10 : lnV E F K n bd sz 10 = E 1 := rfl
theorem ct_11 : lnV E F K n bd sz 11 = E 2 := rfl
theorem ct_12 : lnV E F K n bd sz 12 = E 3 := rfl
theorem ct_13 : lnV E F K n bd sz 13 = E 4 := rfl
theorem ct_14 : lnV E F K n bd sz 14 = E 5 := rfl
theorem ct_15 : lnV E F K n bd sz 15 = sz := rfl
end PI
/-! pairs, faults, ends below a place -/
def psK (F : Int → Int) (n k : Int) : Int := sumZ (psF F n) (Int.toNat k)
def fsK (E F K : Int → Int) (n k : Int) : Int := sumZ (fsF E F K n) (Int.toNat k)
theorem psK_s (F : Int → Int) (n : Int) {k : Int} (h : 0 ≤ k) : psK F n (k + 1) = psK F n k + psF F n k := sumZ_s _ h
theorem fsK_s (E F K : Int → Int) (n : Int) {k : Int} (h : 0 ≤ k) : fsK E F K n (k + 1) = fsK E F K n k + fsF E F K n k := sumZ_s _ h
theorem psF_r (F : Int → Int) (n k : Int) : 0 ≤ psF F n k ∧ psF F n k ≤ 1 := by
  unfold psF psP
  split <;> omega
theorem fsF_r (E F K : Int → Int) (n k : Int) : 0 ≤ fsF E F K n k ∧ fsF E F K n k ≤ 1 := by
  unfold fsF fsP
  split
  · split <;> omega
  · omega
theorem psK_r (F : Int → Int) (n : Int) {k : Int} (h : 0 ≤ k) : 0 ≤ psK F n k ∧ psK F n k ≤ k := by
  have := sumZ_r (f := psF F n) (b := 1) k.toNat (fun j _ _ => psF_r F n j)
  unfold psK
  omega
theorem fsK_r (E F K : Int → Int) (n : Int) {k : Int} (h : 0 ≤ k) : 0 ≤ fsK E F K n k ∧ fsK E F K n k ≤ k := by
  have := sumZ_r (f := fsF E F K n) (b := 1) k.toNat (fun j _ _ => fsF_r E F K n j)
  unfold fsK
  omega
theorem psF_t {F : Int → Int} {n k : Int} (h : prS F n k = true) : psF F n k = 1 := if_pos h
theorem psF_n {F : Int → Int} {n k : Int} (h : ¬ prS F n k = true) : psF F n k = 0 := if_neg h
theorem fsF_n {E F K : Int → Int} {n k : Int} (h : ¬ prS F n k = true) : fsF E F K n k = 0 := if_neg h
theorem sn_mod {sn p : Int} (h : 1 ≤ sn ∧ sn ≤ 12) : snS sn p % sn = 0 := by
  unfold snS
  by_cases e : sn ≤ 1
  · rw [if_pos e, show sn = 1 by omega]
    omega
  · rw [if_neg e]
    rcases (show sn = 2 ∨ sn = 3 ∨ sn = 4 ∨ sn = 5 ∨ sn = 6 ∨ sn = 7 ∨ sn = 8 ∨ sn = 9 ∨ sn = 10 ∨ sn = 11 ∨ sn = 12 by omega) with rfl | rfl | rfl | rfl | rfl | rfl | rfl | rfl | rfl | rfl | rfl <;> (split <;> omega)
section PB
variable {E F K : Int → Int} {n k : Int}
theorem bg_mod (hE : okE E) (h0 : 0 < k) (hl : letA F n k ≠ -1) : bgA E F K n k % E 4 = 0 := by
  have h4 := okE_4 hE
  unfold bgA bgP
  by_cases q : prS F n k = true
  · rw [if_pos q]
    have e : enA E F K n k + gpP E F K n k (enA E F K n k) = snS (E 4) (enA E F K n k + if 0 < lgP E F n k + K k then lgP E F n k + K k else 0) := by
      unfold gpP gpS
      omega
    rw [e]
    exact sn_mod h4
  · rw [if_neg q, if_neg (fun w => w.elim hl (fun z => by omega))]
    exact sn_mod h4
theorem bg_r (hE : okE E) (hK : okK K n) (hk : 0 ≤ k ∧ k < n) : enA E F K n k ≤ bgA E F K n k ∧ bgA E F K n k ≤ enA E F K n k + 56 := bgP_r (F := F) (w := enA E F K n k) hE hK hk
theorem en_s (h : 0 ≤ k) : enA E F K n (k + 1) = bgA E F K n k + wdP E F n k := enA_s E F K n h
theorem pr_a (hE : okE E) (hK : okK K n) (hk : 0 ≤ k ∧ k < n) : (prS F n k = true ∧ (0 ≤ arA E F K n k ∧ arA E F K n k ≤ 10 * E 1) ∧ (0 ≤ gpA E F K n k ∧ gpA E F K n k ≤ 56) ∧ bgA E F K n k - enA E F K n k = gpA E F K n k ∧ (0 ≤ shA E F K n k ∧ shA E F K n k ≤ 40000)) ∨ (¬ prS F n k = true ∧ arA E F K n k = -1 ∧ gpA E F K n k = -1) := by
  by_cases q : prS F n k = true
  · left
    have h1 := gpP_r (F := F) (w := enA E F K n k) hE hK hk
    have h2 := okE_1 hE
    have h3 : 0 ≤ arA E F K n k ∧ arA E F K n k ≤ 10 * E 1 := by
      rw [arA_t q]
      exact arS_r (N := inS E F n k) (rl := E 1) (fun z z0 z1 => inS_r hE ⟨z0, z1⟩) h1.1 (by omega)
    have h4 : 0 ≤ gpA E F K n k ∧ gpA E F K n k ≤ 56 := by rw [gpA_t q]; exact h1
    have h5 : 0 ≤ shA E F K n k ∧ shA E F K n k ≤ 40000 := by rw [shA_t q]; exact ahP_r hE hK hk
    exact ⟨q, h3, h4, gpA_bg q, h5⟩
  · right
    exact ⟨q, arA_f q, gpA_f q⟩
theorem sh_q (h : prS F n k = true) : (if E 3 < arA E F K n k then arA E F K n k - E 3 else E 3 - arA E F K n k) * 100 / E 3 = shA E F K n k := by
  rw [arA_t h, shA_t h]
  rfl
theorem wd_t (h : letA F n k ≠ -1) : wdI (letA F n k) = wdP E F n k := by
  unfold wdP
  rw [if_neg h]
theorem wd_n (h : ¬ letA F n k ≠ -1) : E 2 = wdP E F n k := by
  unfold wdP
  rw [if_pos (Classical.not_not.mp h)]
theorem letA_m : letA F n (-1) = -1 := if_neg (by omega)
end PB
theorem sumZ_z : ∀ m : Nat, sumZ (fun _ => 0) m = 0
  | 0 => rfl
  | m + 1 => by
    show sumZ (fun _ => 0) m + 0 = 0
    rw [sumZ_z m]
    rfl
/-- of faults there are some just if the first pair of the order is one -/
theorem ft_top {E F K : Int → Int} {n : Int} (hn : 0 ≤ n) (hp : 0 < psN F n) : 0 < fsN E F K n ↔ fsF E F K n (rkV true E F K n 0) = 1 := by
  obtain ⟨q1, q2, q3⟩ := rkV_ok (ff := true) (E := E) (F := F) (K := K) (r := 0) hn (Int.le_refl 0) hp
  generalize rkV true E F K n 0 = q at q1 q2 q3 ⊢
  constructor
  · intro h
    refine Classical.byContradiction fun w => ?_
    have le : ¬ E 5 < shA E F K n q := fun z => w (by rw [fsF_t q2, if_pos z])
    have all : ∀ j : Int, 0 ≤ j → j < ((n.toNat : Nat) : Int) → fsF E F K n j ≤ 0 := by
      intro j j0 j1
      by_cases pj : prS F n j = true
      · have hs : shA E F K n j ≤ shA E F K n q := by
          by_cases e : j = q
          · rw [e]; exact Int.le_refl _
          · rcases ahB_tot (ff := true) (Ar := arA E F K n) (Sh := shA E F K n) e with z | z
            · exfalso
              have a1 := cnS_lt (pr := prS F n) (ah := ahB true (arA E F K n) (shA E F K n)) (i := n) (fun p => ahB_irr) (fun p q r => ahB_tr) ⟨j0, by omega⟩ pj z
              have a2 := cnS_0 (pr := prS F n) (ah := ahB true (arA E F K n) (shA E F K n)) (i := n) (k := j)
              omega
            · rw [ahB_t] at z
              simp only [true_and, not_true_eq_false, false_and, or_false] at z
              omega
        rw [fsF_t pj, if_neg (by omega)]
        exact Int.le_refl 0
      · rw [fsF_n pj]
        exact Int.le_refl 0
    have := sumZ_le (f := fsF E F K n) (g := fun _ => 0) n.toNat all
    rw [sumZ_z] at this
    unfold fsN at h
    omega
  · intro h
    have := sumZ_lt (f := fun _ => 0) (g := fsF E F K n) (x := q) n.toNat q1.1 (by omega) (by omega) (fun j _ _ => (fsF_r E F K n j).1)
    rw [sumZ_z] at this
    unfold fsN
    omega
/-! what is told of a line -/
def tlJ (f : Int → Int → Int) : Nat → Int64 → Int64
  | 0, h => h
  | i + 1, h => dgL (f i) 9 (tlJ f i h)
theorem tlJ_s (f : Int → Int → Int) (h : Int64) {i : Int} (hi : 0 ≤ i) : tlJ f (i + 1).toNat h = dgL (f i) 9 (tlJ f i.toNat h) := by
  have e : (i + 1).toNat = i.toNat + 1 := by omega
  have e2 : ((i.toNat : Nat) : Int) = i := by omega
  rw [e]
  simp only [tlJ, e2]
def tlS (E F K : Int → Int) (n bd sz : Int) : Int64 := tlJ (itS E F K n) n.toNat (dgL (lnV E F K n bd sz) 15 3)
/-! what an act does: the kind first, -1: none -/
def plN (v n : Int) : Int := if n = 0 then 0 else lwN (srI v 4) n
def kdN (v w : Int) (F : Int → Int) (n : Int) : Int := if anI v 15 = 0 then (if n = 0 then -1 else 0) else if anI v 15 = 1 then (if n = 0 then -1 else 1) else if anI v 15 = 2 ∨ anI v 15 = 3 ∨ anI v 15 = 4 then (if n = 0 ∨ letA F n (plN v n) < 0 then -1 else 2) else if anI v 15 = 5 then 3 else if anI v 15 = 6 ∨ anI v 15 = 7 ∨ anI v 15 = 8 then 4 else if anI v 15 = 9 then (if anI w 3 = 0 then 5 else -1) else (if n = 20 then -1 else 6)
def ltN (w : Int) : Int := if anI (srI w 11) 7 = 0 then -1 else lwN w 26
theorem ltN_r (w : Int) : -1 ≤ ltN w ∧ ltN w < 26 := by
  have := lwN_r (v := w) (n := 26) (by omega)
  unfold ltN
  split <;> omega
theorem plN_r {v n : Int} (h : 0 ≤ n) : 0 ≤ plN v n ∧ (n ≠ 0 → plN v n < n) ∧ plN v n ≤ n := by
  unfold plN
  by_cases e : n = 0
  · rw [if_pos e]; omega
  · rw [if_neg e]
    have := lwN_r (v := srI v 4) (n := n) (by omega)
    omega
def acV (kd v w : Int) (E F K : Int → Int) (n bd n2 : Int) : Int := if kd = 0 then n - 1 else if kd = 1 then enA E (exZ F (plN v n) (lwN w n)) (exZ K (plN v n) (lwN w n)) n n else if kd = 2 then K (plN v n) + 10 else if kd = 3 then bd else if kd = 4 then E (lwN w 6) else if kd = 5 then n2 else if kd = 6 then n + 1 else -9
def acN (kd n n2 : Int) : Int := if kd = 0 then n - 1 else if kd = 5 then n2 else if kd = 6 then n + 1 else n
def acB (kd w bd bd2 : Int) : Int := if kd = 3 then 50 + lwN w 551 else if kd = 5 then bd2 else bd
def acE (kd w : Int) (E E2 : Int → Int) : Int → Int := if kd = 4 then uZ E (lwN w 6) (vlN (lwN w 6) (srI w 3)) else if kd = 5 then E2 else E
def acF (kd v w : Int) (F F2 : Int → Int) (n : Int) : Int → Int := if kd = 0 then remZ F (plN v n) n else if kd = 1 then exZ F (plN v n) (lwN w n) else if kd = 5 then F2 else if kd = 6 then insZ F (lwN (srI w 5) (n + 1)) n (ltN w) else F
def acK (kd v w : Int) (K K2 : Int → Int) (n : Int) : Int → Int := if kd = 0 then remZ K (plN v n) n else if kd = 1 then exZ K (plN v n) (lwN w n) else if kd = 2 then uZ K (plN v n) (lwN w 11 - 5) else if kd = 5 then K2 else if kd = 6 then insZ K (lwN (srI w 5) (n + 1)) n 0 else K
def okSt (E F K : Int → Int) (n bd : Int) : Prop := okE E ∧ (0 ≤ n ∧ n ≤ 20) ∧ okF F n ∧ okK K n ∧ (50 ≤ bd ∧ bd ≤ 600)
theorem kd_r (v w : Int) (F : Int → Int) (n : Int) : kdN v w F n = -1 ∨ (kdN v w F n = 0 ∧ n ≠ 0) ∨ (kdN v w F n = 1 ∧ n ≠ 0) ∨ (kdN v w F n = 2 ∧ n ≠ 0) ∨ kdN v w F n = 3 ∨ kdN v w F n = 4 ∨ kdN v w F n = 5 ∨ (kdN v w F n = 6 ∧ n ≠ 20) := by
  unfold kdN
  repeat' split
  all_goals omega
theorem ac_ok {E F K E2 F2 K2 : Int → Int} {n bd n2 bd2 : Int} (v w : Int) (h : okSt E F K n bd) (h2 : okSt E2 F2 K2 n2 bd2) : okSt (acE (kdN v w F n) w E E2) (acF (kdN v w F n) v w F F2 n) (acK (kdN v w F n) v w K K2 n) (acN (kdN v w F n) n n2) (acB (kdN v w F n) w bd bd2) := by
  obtain ⟨a1, a2, a3, a4, a5⟩ := h
  have hp := plN_r (v := v) a2.1
  have b6 := lwN_r (v := w) (n := 6) (by omega)
  have b11 := lwN_r (v := w) (n := 11) (by omega)
  have b5 := lwN_r (v := w) (n := 551) (by omega)
  have bi := lwN_r (v := srI w 5) (n := n + 1) (by omega)
  rcases kd_r v w F n with e | ⟨e, e0⟩ | ⟨e, e0⟩ | ⟨e, e0⟩ | e | e | e | ⟨e, e0⟩ <;> rw [e]
  · exact ⟨a1, a2, a3, a4, a5⟩
  · exact ⟨a1, show 0 ≤ n - 1 ∧ n - 1 ≤ 20 by omega, remZ_ok (P := fun x => -1 ≤ x ∧ x < 26) a3 ⟨hp.1, hp.2.1 e0⟩, remZ_ok (P := fun x => -5 ≤ x ∧ x ≤ 5) a4 ⟨hp.1, hp.2.1 e0⟩, a5⟩
  · have bw := lwN_r (v := w) (n := n) (by omega)
    exact ⟨a1, a2, exZ_ok (P := fun x => -1 ≤ x ∧ x < 26) a3 ⟨hp.1, hp.2.1 e0⟩ bw, exZ_ok (P := fun x => -5 ≤ x ∧ x ≤ 5) a4 ⟨hp.1, hp.2.1 e0⟩ bw, a5⟩
  · exact ⟨a1, a2, a3, uZ_ok (P := fun x => -5 ≤ x ∧ x ≤ 5) a4 (by omega), a5⟩
  · exact ⟨a1, a2, a3, a4, show 50 ≤ 50 + lwN w 551 ∧ 50 + lwN w 551 ≤ 600 by omega⟩
  · exact ⟨okE_u a1 (vlN_r b6), a2, a3, a4, a5⟩
  · exact h2
  · exact ⟨a1, show 0 ≤ n + 1 ∧ n + 1 ≤ 20 by omega, insZ_ok (P := fun x => -1 ≤ x ∧ x < 26) a3 (by omega) (ltN_r w), insZ_ok (P := fun x => -5 ≤ x ∧ x ≤ 5) a4 (by omega) (by omega), a5⟩
theorem ac_v {E F K E2 F2 K2 : Int → Int} {n bd n2 bd2 : Int} (v w : Int) (h : okSt E F K n bd) (h2 : okSt E2 F2 K2 n2 bd2) : (kdN v w F n = -1 ∧ acV (kdN v w F n) v w E F K n bd n2 = -9) ∨ (kdN v w F n ≠ -1 ∧ 0 ≤ acV (kdN v w F n) v w E F K n bd n2 ∧ acV (kdN v w F n) v w E F K n bd n2 ≤ 10000) := by
  obtain ⟨a1, a2, a3, a4, a5⟩ := h
  have hp := plN_r (v := v) a2.1
  have b6 := lwN_r (v := w) (n := 6) (by omega)
  rcases kd_r v w F n with e | ⟨e, e0⟩ | ⟨e, e0⟩ | ⟨e, e0⟩ | e | e | e | ⟨e, e0⟩ <;> rw [e]
  · exact Or.inl ⟨rfl, rfl⟩
  · exact Or.inr ⟨by decide, show 0 ≤ n - 1 ∧ n - 1 ≤ 10000 by omega⟩
  · have bw := lwN_r (v := w) (n := n) (by omega)
    have q := enA_r (p := n) a1 (exZ_ok (P := fun x => -1 ≤ x ∧ x < 26) a3 ⟨hp.1, hp.2.1 e0⟩ bw) (exZ_ok (P := fun x => -5 ≤ x ∧ x ≤ 5) a4 ⟨hp.1, hp.2.1 e0⟩ bw) ⟨a2.1, by omega⟩
    exact Or.inr ⟨by decide, show 0 ≤ enA E (exZ F (plN v n) (lwN w n)) (exZ K (plN v n) (lwN w n)) n n ∧ enA E (exZ F (plN v n) (lwN w n)) (exZ K (plN v n) (lwN w n)) n n ≤ 10000 by omega⟩
  · have q := a4 (plN v n) hp.1 (hp.2.1 e0)
    exact Or.inr ⟨by decide, show 0 ≤ K (plN v n) + 10 ∧ K (plN v n) + 10 ≤ 10000 by omega⟩
  · exact Or.inr ⟨by decide, show 0 ≤ bd ∧ bd ≤ 10000 by omega⟩
  · have q := a1 (lwN w 6) b6.1 b6.2
    have q1 := zLs_r (lwN w 6)
    have q2 := zMs_r (lwN w 6)
    exact Or.inr ⟨by decide, show 0 ≤ E (lwN w 6) ∧ E (lwN w 6) ≤ 10000 by omega⟩
  · have q := h2.2.1
    exact Or.inr ⟨by decide, show 0 ≤ n2 ∧ n2 ≤ 10000 by omega⟩
  · exact Or.inr ⟨by decide, show 0 ≤ n + 1 ∧ n + 1 ≤ 10000 by omega⟩
/-! the saved states -/
def rgK (old sz : Int) (pn pb : Int → Int) (PF PK PE : Int → Int → Int) : Prop := ∀ a : Int, 0 ≤ a → a < sz → okSt (PE ((old + a) % 6)) (PF ((old + a) % 6)) (PK ((old + a) % 6)) (pn ((old + a) % 6)) (pb ((old + a) % 6))
theorem rgK_0 {old : Int} {pn pb : Int → Int} {PF PK PE : Int → Int → Int} : rgK old 0 pn pb PF PK PE := fun a a0 a1 => absurd a0 (Int.not_le.mpr a1)
theorem rgK_sv {E F K pn pb : Int → Int} {PF PK PE : Int → Int → Int} {n bd old sz : Int} (h : okSt E F K n bd) (ho : 0 ≤ old ∧ old < 6) (hs : 0 ≤ sz ∧ sz ≤ 6) (hr : rgK old sz pn pb PF PK PE) : rgK (pOld old sz) (pSz sz + 1) (uZ pn ((pOld old sz + pSz sz) % 6) n) (uZ pb ((pOld old sz + pSz sz) % 6) bd) (uR PF ((pOld old sz + pSz sz) % 6) F) (uR PK ((pOld old sz + pSz sz) % 6) K) (uR PE ((pOld old sz + pSz sz) % 6) E) := by
  intro a a0 a1
  have hp := pOld_r (sz := sz) ho
  have hz := pSz_r hs
  by_cases e : a = pSz sz
  · subst e
    unfold uR uZ
    rw [if_pos rfl, if_pos rfl, if_pos rfl, if_pos rfl, if_pos rfl]
    exact h
  · have ne : ¬ (pOld old sz + a) % 6 = (pOld old sz + pSz sz) % 6 := by omega
    unfold uR uZ
    rw [if_neg ne, if_neg ne, if_neg ne, if_neg ne, if_neg ne]
    by_cases s6 : 6 ≤ sz
    · have eo : (pOld old sz + a) % 6 = (old + (a + 1)) % 6 := by
        unfold pOld
        rw [if_pos s6]
        omega
      have ez : pSz sz = 5 := by unfold pSz; rw [if_pos s6]
      rw [eo]
      exact hr (a + 1) (by omega) (by omega)
    · have eo : pOld old sz = old := by unfold pOld; rw [if_neg s6]
      have ez : pSz sz = sz := by unfold pSz; rw [if_neg s6]
      rw [eo]
      exact hr a a0 (by omega)
theorem rgK_un {pn pb : Int → Int} {PF PK PE : Int → Int → Int} {old sz : Int} (hr : rgK old sz pn pb PF PK PE) : rgK old (sz - 1) pn pb PF PK PE := fun a a0 a1 => hr a a0 (by omega)
theorem rgK_at {pn pb : Int → Int} {PF PK PE : Int → Int → Int} {old sz : Int} (hs : 0 < sz) (hr : rgK old sz pn pb PF PK PE) : okSt (PE ((old + (sz - 1)) % 6)) (PF ((old + (sz - 1)) % 6)) (PK ((old + (sz - 1)) % 6)) (pn ((old + (sz - 1)) % 6)) (pb ((old + (sz - 1)) % 6)) := hr (sz - 1) (by omega) (by omega)
/-- what the last save holds -/
def svT (E F K : Int → Int) (n bd old sz : Int) (pn pb : Int → Int) (PF PK PE : Int → Int → Int) : Prop := pn ((old + (sz - 1)) % 6) = n ∧ pb ((old + (sz - 1)) % 6) = bd ∧ PF ((old + (sz - 1)) % 6) = F ∧ PK ((old + (sz - 1)) % 6) = K ∧ PE ((old + (sz - 1)) % 6) = E
theorem svT_sv {E F K pn pb : Int → Int} {PF PK PE : Int → Int → Int} {n bd old sz : Int} : svT E F K n bd (pOld old sz) (pSz sz + 1) (uZ pn ((pOld old sz + pSz sz) % 6) n) (uZ pb ((pOld old sz + pSz sz) % 6) bd) (uR PF ((pOld old sz + pSz sz) % 6) F) (uR PK ((pOld old sz + pSz sz) % 6) K) (uR PE ((pOld old sz + pSz sz) % 6) E) := by
  have e : (pOld old sz + (pSz sz + 1 - 1)) % 6 = (pOld old sz + pSz sz) % 6 := by rw [Int.add_sub_cancel]
  unfold svT
  rw [e]
  exact ⟨if_pos rfl, if_pos rfl, if_pos rfl, if_pos rfl, if_pos rfl⟩
/-- the layout that is shown, if it is not stale -/
abbrev lwH (sl : Bool) (E F K : Int → Int) (n im ps fs wd rl wa sn al : Int) (V Bg En Lg Gp Ar Sh : Int → Int) (sz1 sz2 : Int) (P1 P2 : Int → Int) : Prop := ¬ sl = true → lyT E F K n im ps fs wd rl wa sn al V Bg En Lg Gp Ar Sh ∧ rkT false E F K n sz1 P1 ∧ rkT true E F K n sz2 P2
theorem lwH_t {E F K : Int → Int} {n im ps fs wd rl wa sn al : Int} {V Bg En Lg Gp Ar Sh : Int → Int} {sz1 sz2 : Int} {P1 P2 : Int → Int} : lwH true E F K n im ps fs wd rl wa sn al V Bg En Lg Gp Ar Sh sz1 sz2 P1 P2 := fun h => absurd rfl h
theorem lwH_f {E F K : Int → Int} {n : Int} {Bg En Lg Gp Ar Sh : Int → Int} {P1 P2 : Int → Int} (h1 : lyA E F K n Bg En Lg Gp Ar Sh) (h2 : rkOk (prS F n) (ahB false (arA E F K n) (shA E F K n)) n P1) (h3 : rkOk (prS F n) (ahB true (arA E F K n) (shA E F K n)) n P2) : lwH false E F K n n (psN F n) (fsN E F K n) (enA E F K n n) (E 1) (E 3) (E 4) (E 5) (edZ (E 0)) Bg En Lg Gp Ar Sh (pcS (prS F n) n) (pcS (prS F n) n) P1 P2 :=
  fun _ => ⟨⟨⟨rfl, rfl, rfl, rfl, rfl, rfl, rfl, rfl⟩, fun _ _ _ => rfl, h1⟩, ⟨rfl, h2⟩, ⟨rfl, h3⟩⟩
