/-! ===== pure: changes of the model's row ===== -/
def swS (S : Int → Int) (p q : Int) : Int → Int := exZ (exZ S (8 + p) (8 + q)) (28 + p) (28 + q)
theorem swS_lo {S : Int → Int} {p q j : Int} (hp : 0 ≤ p) (hq : 0 ≤ q) (hj : j < 8) : swS S p q j = S j := by
  unfold swS exZ uZ
  rw [if_neg (by omega), if_neg (by omega), if_neg (by omega), if_neg (by omega)]
theorem swS_F {S : Int → Int} {p q j : Int} (hp : 0 ≤ p ∧ p < 20) (hq : 0 ≤ q ∧ q < 20) (hj : 0 ≤ j ∧ j < 20) : sF (swS S p q) j = exZ (sF S) p q j := by
  unfold sF swS
  have e : exZ (exZ S (8 + p) (8 + q)) (28 + p) (28 + q) (8 + j) = exZ S (8 + p) (8 + q) (8 + j) := by
    conv => lhs; unfold exZ
    unfold uZ
    rw [if_neg (by omega), if_neg (by omega)]
    rfl
  rw [e]
  unfold exZ uZ
  by_cases a : j = q
  · rw [if_pos (by omega), if_pos a]
  · rw [if_neg (by omega), if_neg a]
    by_cases b : j = p
    · rw [if_pos (by omega), if_pos b]
    · rw [if_neg (by omega), if_neg b]
theorem swS_K {S : Int → Int} {p q j : Int} (hp : 0 ≤ p ∧ p < 20) (hq : 0 ≤ q ∧ q < 20) (hj : 0 ≤ j ∧ j < 20) : sK (swS S p q) j = exZ (sK S) p q j := by
  unfold sK swS
  have e : ∀ k : Int, 28 ≤ k → exZ S (8 + p) (8 + q) k = S k := fun k hk => by
    unfold exZ uZ
    rw [if_neg (by omega), if_neg (by omega)]
  unfold exZ uZ
  by_cases a : j = q
  · rw [if_pos (by omega), if_pos a]
    have := e (28 + p) (by omega)
    unfold exZ uZ at this
    exact this
  · rw [if_neg (by omega), if_neg a]
    by_cases b : j = p
    · rw [if_pos (by omega), if_pos b]
      have := e (28 + q) (by omega)
      unfold exZ uZ at this
      exact this
    · rw [if_neg (by omega), if_neg b]
      have := e (28 + j) (by omega)
      unfold exZ uZ at this
      exact this
def okM (S : Int → Int) : Prop := okE S ∧ (0 ≤ S 7 ∧ S 7 ≤ 20) ∧ okF (sF S) (S 7) ∧ okK (sK S) (S 7)
theorem swS_ok {S : Int → Int} {p q : Int} (h : okM S) (hp : 0 ≤ p ∧ p < S 7) (hq : 0 ≤ q ∧ q < S 7) : okM (swS S p q) := by
  obtain ⟨h1, h2, h3, h4⟩ := h
  have e : ∀ j : Int, j < 8 → swS S p q j = S j := fun j hj => swS_lo hp.1 hq.1 hj
  have e7 := e 7 (by omega)
  refine ⟨fun j j0 j1 => by rw [e j (by omega)]; exact h1 j j0 j1, by rw [e7]; exact h2, ?_, ?_⟩
  · rw [e7]
    intro j j0 j1
    rw [swS_F (by omega) (by omega) (by omega)]
    exact exZ_ok (P := fun x => -1 ≤ x ∧ x < 26) h3 hp hq j j0 j1
  · rw [e7]
    intro j j0 j1
    rw [swS_K (by omega) (by omega) (by omega)]
    exact exZ_ok (P := fun x => -5 ≤ x ∧ x ≤ 5) h4 hp hq j j0 j1
theorem uS_ok {S : Int → Int} {s v : Int} (h : okM S) (hs : 0 ≤ s ∧ s < 6) (hv : zLs s ≤ v ∧ v ≤ zMs s) : okM (uZ S s v) := by
  obtain ⟨h1, h2, h3, h4⟩ := h
  have e7 : uZ S s v 7 = S 7 := uZ_ne (by omega)
  refine ⟨okE_u h1 hv, by rw [e7]; exact h2, ?_, ?_⟩
  · rw [e7]
    intro j j0 j1
    have e : sF (uZ S s v) j = sF S j := uZ_ne (by omega)
    rw [e]
    exact h3 j j0 j1
  · rw [e7]
    intro j j0 j1
    have e : sK (uZ S s v) j = sK S j := uZ_ne (by omega)
    rw [e]
    exact h4 j j0 j1
theorem uS_c {S : Int → Int} {s v : Int} (hs : 0 ≤ s ∧ s < 6) : cEq (uZ S s v) (sF (uZ S s v)) (sK (uZ S s v)) (uZ S s v) (sF S) (sK S) (S 7) :=
  ⟨fun _ _ _ => rfl, fun j j0 j1 => uZ_ne (by omega), fun j j0 j1 => uZ_ne (by omega)⟩
theorem uS_wd {S : Int → Int} {s v : Int} (hs : 0 ≤ s ∧ s < 6) : enA (uZ S s v) (sF (uZ S s v)) (sK (uZ S s v)) (uZ S s v 7) (uZ S s v 7) = wdS S (sF S) (sK S) (S 7) s v := by
  have e7 : uZ S s v 7 = S 7 := uZ_ne (by omega)
  rw [e7, c_enA (uS_c hs)]
  rfl
theorem uS_ft {S : Int → Int} {s v : Int} (hs : 0 ≤ s ∧ s < 6) : fsN (uZ S s v) (sF (uZ S s v)) (sK (uZ S s v)) (uZ S s v 7) = ftS S (sF S) (sK S) (S 7) s v := by
  have e7 : uZ S s v 7 = S 7 := uZ_ne (by omega)
  rw [e7, c_fsN (uS_c hs)]
  rfl
