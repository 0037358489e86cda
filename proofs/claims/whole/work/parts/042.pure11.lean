/-! ===== pure: the model's line, in one row ===== -/
theorem bI_c {P Q : Prop} [Decidable P] [Decidable Q] (h : P ↔ Q) : iI (bI P) = iI (bI Q) := by
  by_cases q : P
  · rw [bI_t q, bI_t (h.mp q)]
  · rw [bI_f q, bI_f (fun w => q (h.mpr w))]
def sF (S : Int → Int) : Int → Int := fun j => S (8 + j)
def sK (S : Int → Int) : Int → Int := fun j => S (28 + j)
def inZ (S : Int → Int) (a b : Int) : Int → Int := fun q => bIn ((3 * a + 1) % 4) q (S 0) + bIn (b % 4) q (S 0)
theorem inZ_r {S : Int → Int} {a b q : Int} (hE : okE S) (hq : 0 ≤ q ∧ q < 10) : 0 ≤ inZ S a b q ∧ inZ S a b q ≤ 8 := by
  have h0 := okE_0 hE
  have h1 := bIn_r ((3 * a + 1) % 4) q (S 0) hq h0.1
  have h2 := bIn_r (b % 4) q (S 0) hq h0.1
  unfold inZ
  omega
theorem letA_i {F : Int → Int} {n j : Int} (h : 0 ≤ j ∧ j < n) : letA F n j = F j := if_pos h
theorem inZ_s {S : Int → Int} {p : Int} (h : prS (sF S) (S 7) p = true) : inZ S (S (8 + p - 1)) (S (8 + p)) = inS S (sF S) (S 7) p := by
  have a := prS_in h
  funext q
  unfold inZ inS
  rw [letA_i (j := p) (by omega), letA_i (j := p - 1) (by omega)]
  unfold sF
  rw [show (8 : Int) + (p - 1) = 8 + p - 1 by omega]
theorem snM {sn p : Int} (h : 1 < sn ∧ sn ≤ 12) : (p + sn - 1) / sn * sn = snS sn p := by
  unfold snS
  rw [if_neg (by omega)]
  rcases (show sn = 2 ∨ sn = 3 ∨ sn = 4 ∨ sn = 5 ∨ sn = 6 ∨ sn = 7 ∨ sn = 8 ∨ sn = 9 ∨ sn = 10 ∨ sn = 11 ∨ sn = 12 by omega) with rfl | rfl | rfl | rfl | rfl | rfl | rfl | rfl | rfl | rfl | rfl <;> (split <;> omega)
def bgM (E F : Int → Int) (n p q e : Int) : Int := if p = 0 then 0 else snS (E 4) (e + if letA F n (p - 1) ≠ -1 then (if 0 < lgP E F n p + q then lgP E F n p + q else 0) else 0)
theorem bgM_eq {E F K : Int → Int} {n p : Int} (hp : 0 ≤ p ∧ p < n) (hl : letA F n p ≠ -1) : bgM E F n p (K p) (enA E F K n p) = bgA E F K n p := by
  unfold bgM bgA bgP
  by_cases e0 : p = 0
  · rw [if_pos e0, if_neg (fun w => absurd (prS_in w) (by omega)), if_pos (Or.inr e0), e0]
    rfl
  · rw [if_neg e0]
    by_cases e1 : letA F n (p - 1) ≠ -1
    · rw [if_pos e1, if_pos (prS_t.mpr ⟨e1, hl⟩)]
      unfold gpP gpS
      omega
    · rw [if_neg e1, if_neg (fun w => e1 (prS_t.mp w).1), if_neg (by omega), Int.add_zero]
theorem bgM_r {E F : Int → Int} {n p q e : Int} (hE : okE E) (hq : -5 ≤ q ∧ q ≤ 5) (he : 0 ≤ e ∧ e ≤ 10000) : 0 ≤ bgM E F n p q e ∧ bgM E F n p q e ≤ 10100 := by
  have hl := lgS_r (inS E F n p) (E 1) (E 3)
  have h4 := okE_4 hE
  have hs := snS_r (p := e + if letA F n (p - 1) ≠ -1 then (if 0 < lgP E F n p + q then lgP E F n p + q else 0) else 0) h4
  unfold bgM
  unfold lgP at *
  split
  · omega
  · refine ⟨Int.le_trans ?_ hs.1, Int.le_trans hs.2 ?_⟩
    · split
      · split <;> omega
      · omega
    · split
      · split <;> omega
      · omega
theorem bgA_no {E F K : Int → Int} {n p : Int} (hl : ¬ letA F n p ≠ -1) : enA E F K n p = bgA E F K n p := by
  unfold bgA bgP
  rw [if_neg (fun w => hl (prS_t.mp w).2), if_pos (Or.inl (Classical.not_not.mp hl))]
theorem gpA_bg {E F K : Int → Int} {n p : Int} (h : prS F n p = true) : bgA E F K n p - enA E F K n p = gpA E F K n p := by
  rw [gpA_t h]
  unfold bgA bgP
  rw [if_pos h]
  omega
/-- the rows of the model's line when it is laid -/
def lyM (S B N G A : Int → Int) : Prop :=
  (∀ j : Int, 0 ≤ j → j < S 7 → B j = bgA S (sF S) (sK S) (S 7) j) ∧ (∀ j : Int, 0 ≤ j → j < S 7 → N j = enA S (sF S) (sK S) (S 7) (j + 1)) ∧ (∀ j : Int, 0 ≤ j → j < S 7 → G j = gpA S (sF S) (sK S) (S 7) j) ∧ (∀ j : Int, 0 ≤ j → j < S 7 → A j = arA S (sF S) (sK S) (S 7) j)
def svS (V : Int → Int) (sm : Int) (S : Int → Int) : Int → Int := fun j => if 48 * pSz sm ≤ j ∧ j < 48 * pSz sm + 48 then S (j - 48 * pSz sm) else if 6 ≤ sm ∧ j < 240 then V (j + 48) else V j
