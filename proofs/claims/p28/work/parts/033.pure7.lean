/-! ===== pure: what stands behind a look ===== -/
theorem cnS_c {pr pr2 : Int → Bool} {ah ah2 : Int → Int → Bool} {i k : Int} (hi : 0 ≤ i) (h1 : ∀ j : Int, 0 ≤ j → j < i → pr j = pr2 j) (h2 : ∀ e : Int, 0 ≤ e → e < i → ah e k = ah2 e k) : cnS pr ah i k = cnS pr2 ah2 i k :=
  sumZ_c _ (fun j j0 j1 => by
    unfold cnF
    rw [h1 j j0 (by omega), h2 j j0 (by omega)])
theorem pcS_c {pr pr2 : Int → Bool} {i : Int} (hi : 0 ≤ i) (h1 : ∀ j : Int, 0 ≤ j → j < i → pr j = pr2 j) : pcS pr i = pcS pr2 i :=
  sumZ_c _ (fun j j0 j1 => by
    unfold pcF
    rw [h1 j j0 (by omega)])
theorem rkOk_c {pr pr2 : Int → Bool} {ah ah2 : Int → Int → Bool} {i : Int} {P : Int → Int} (hi : 0 ≤ i) (h1 : ∀ j : Int, 0 ≤ j → j < i → pr j = pr2 j) (h2 : ∀ e k : Int, 0 ≤ e → e < i → 0 ≤ k → k < i → ah e k = ah2 e k) (h : rkOk pr ah i P) : rkOk pr2 ah2 i P := by
  intro r r0 r1
  rw [← pcS_c hi h1] at r1
  obtain ⟨a1, a2, a3⟩ := h r r0 r1
  refine ⟨a1, by rw [← h1 _ a1.1 a1.2]; exact a2, ?_⟩
  rw [← cnS_c hi h1 (fun e e0 e1 => h2 e (P r) e0 e1 a1.1 a1.2)]
  exact a3
theorem ahB_c {ff : Bool} {Ar Sh Ar2 Sh2 : Int → Int} {e k : Int} (h1 : Ar e = Ar2 e) (h2 : Ar k = Ar2 k) (h3 : Sh e = Sh2 e) (h4 : Sh k = Sh2 k) : ahB ff Ar Sh e k = ahB ff Ar2 Sh2 e k := by
  unfold ahB
  rw [h1, h2, h3, h4]
theorem letA_in {F : Int → Int} {n j : Int} (h : letA F n j ≠ -1) : 0 ≤ j ∧ j < n := by
  unfold letA at h
  split at h
  · assumption
  · exact absurd rfl h
theorem prS_in {F : Int → Int} {n p : Int} (h : prS F n p = true) : 0 < p ∧ p < n := by
  have h1 := prS_t.mp h
  have a1 := letA_in h1.1
  have a2 := letA_in h1.2
  omega
theorem gpA_t {E F K : Int → Int} {n p : Int} (h : prS F n p = true) : gpA E F K n p = gpP E F K n p (enA E F K n p) := if_pos h
theorem arA_t {E F K : Int → Int} {n p : Int} (h : prS F n p = true) : arA E F K n p = agP E F K n p (enA E F K n p) := if_pos h
theorem shA_t {E F K : Int → Int} {n p : Int} (h : prS F n p = true) : shA E F K n p = ahP E F K n p (enA E F K n p) := if_pos h
theorem gpA_f {E F K : Int → Int} {n p : Int} (h : ¬ prS F n p = true) : gpA E F K n p = -1 := if_neg h
theorem arA_f {E F K : Int → Int} {n p : Int} (h : ¬ prS F n p = true) : arA E F K n p = -1 := if_neg h
theorem shA_f {E F K : Int → Int} {n p : Int} (h : ¬ prS F n p = true) : shA E F K n p = -1 := if_neg h
theorem gpA_r {E F K : Int → Int} {n p : Int} (hE : okE E) (hK : okK K n) (hp : 0 ≤ p ∧ p < n) : -1 ≤ gpA E F K n p ∧ gpA E F K n p ≤ 1000 := by
  by_cases h : prS F n p = true
  · rw [gpA_t h]; have := gpP_r (F := F) (w := enA E F K n p) hE hK hp; omega
  · rw [gpA_f h]; omega
theorem arA_r {E F K : Int → Int} {n p : Int} (hE : okE E) (hK : okK K n) (hp : 0 ≤ p ∧ p < n) : -1 ≤ arA E F K n p ∧ arA E F K n p ≤ 400 := by
  by_cases h : prS F n p = true
  · rw [arA_t h]; have := agP_r (F := F) (w := enA E F K n p) hE hK hp; omega
  · rw [arA_f h]; omega
theorem shA_r {E F K : Int → Int} {n p : Int} (hE : okE E) (hK : okK K n) (hp : 0 ≤ p ∧ p < n) : -1 ≤ shA E F K n p ∧ shA E F K n p ≤ 40000 := by
  by_cases h : prS F n p = true
  · rw [shA_t h]; have := ahP_r (F := F) (w := enA E F K n p) hE hK hp; omega
  · rw [shA_f h]; omega
theorem gpA_ne {E F K : Int → Int} {n p : Int} (hE : okE E) (hK : okK K n) (hp : 0 ≤ p ∧ p < n) : gpA E F K n p ≠ -1 ↔ prS F n p = true := by
  by_cases h : prS F n p = true
  · rw [gpA_t h]; have := gpP_r (F := F) (w := enA E F K n p) hE hK hp
    exact ⟨fun _ => h, fun _ => by omega⟩
  · rw [gpA_f h]; exact ⟨fun q => absurd rfl q, fun q => absurd q h⟩
/-- the rows of a layout that is laid -/
def lyA (E F K : Int → Int) (n : Int) (Bg En Lg Gp Ar Sh : Int → Int) : Prop :=
  (∀ j : Int, 0 ≤ j → j < n → Bg j = bgA E F K n j) ∧ (∀ j : Int, 0 ≤ j → j < n → En j = enA E F K n (j + 1)) ∧ (∀ j : Int, 0 ≤ j → j < n → prS F n j = true → Lg j = lgP E F n j) ∧ (∀ j : Int, 0 ≤ j → j < n → Gp j = gpA E F K n j) ∧ (∀ j : Int, 0 ≤ j → j < n → Ar j = arA E F K n j) ∧ (∀ j : Int, 0 ≤ j → j < n → Sh j = shA E F K n j)
def psN (F : Int → Int) (n : Int) : Int := sumZ (psF F n) (Int.toNat n)
def fsN (E F K : Int → Int) (n : Int) : Int := sumZ (fsF E F K n) (Int.toNat n)
def lyT (E F K : Int → Int) (n im ps fs wd rl wa sn al : Int) (V Bg En Lg Gp Ar Sh : Int → Int) : Prop :=
  (im = n ∧ ps = psN F n ∧ fs = fsN E F K n ∧ wd = enA E F K n n ∧ rl = E 1 ∧ wa = E 3 ∧ sn = E 4 ∧ al = E 5) ∧ (∀ j : Int, 0 ≤ j → j < 40 → V j = edZ (E 0) j) ∧ lyA E F K n Bg En Lg Gp Ar Sh
def rkT (ff : Bool) (E F K : Int → Int) (n sz : Int) (P : Int → Int) : Prop := sz = pcS (prS F n) n ∧ rkOk (prS F n) (ahB ff (arA E F K n) (shA E F K n)) n P
theorem rkT_of {ff : Bool} {E F K Bg En Lg Gp Ar Sh P : Int → Int} {n : Int} (hE : okE E) (hK : okK K n) (hn : 0 ≤ n) (h : lyA E F K n Bg En Lg Gp Ar Sh) (hr : rkOk (fun j : Int => decide (0 < j ∧ Gp j ≠ -1)) (ahB ff Ar Sh) n P) : rkT ff E F K n (pcS (fun j : Int => decide (0 < j ∧ Gp j ≠ -1)) n) P := by
  obtain ⟨-, -, -, h4, h5, h6⟩ := h
  have e : ∀ j : Int, 0 ≤ j → j < n → decide (0 < j ∧ Gp j ≠ -1) = prS F n j := by
    intro j j0 j1
    rw [h4 j j0 j1]
    by_cases q : prS F n j = true
    · rw [q]
      have a1 := prS_in q
      exact decide_eq_true ⟨a1.1, (gpA_ne hE hK ⟨j0, j1⟩).mpr q⟩
    · rw [Bool.eq_false_iff.mpr q]
      exact decide_eq_false (fun w => q ((gpA_ne hE hK ⟨j0, j1⟩).mp w.2))
  exact ⟨pcS_c hn e, rkOk_c hn e (fun e k e0 e1 k0 k1 => ahB_c (h5 e e0 e1) (h5 k k0 k1) (h6 e e0 e1) (h6 k k0 k1)) hr⟩
theorem psN_pc (F : Int → Int) (n : Int) : psN F n = pcS (prS F n) n := rfl
theorem psN_r {F : Int → Int} {n : Int} (h : 0 ≤ n) : 0 ≤ psN F n ∧ psN F n ≤ n := by rw [psN_pc]; exact pcS_r h
theorem fsN_r (E F K : Int → Int) {n : Int} (h : 0 ≤ n) : 0 ≤ fsN E F K n ∧ fsN E F K n ≤ psN F n := by
  refine ⟨(sumZ_r (b := 1) _ (fun j _ _ => by unfold fsF fsP; split; split <;> omega; omega)).1, sumZ_le _ (fun j _ _ => ?_)⟩
  unfold fsF fsP psF psP
  split
  · split <;> omega
  · omega
