/-! ===== pure: the class's state and the model's row ===== -/
def stS (E F K : Int → Int) (n bd : Int) (S : Int → Int) : Prop := (okE E ∧ (0 ≤ n ∧ n ≤ 20) ∧ okF F n ∧ okK K n ∧ (50 ≤ bd ∧ bd ≤ 600)) ∧ S 7 = n ∧ S 6 = bd ∧ cEq E F K S (sF S) (sK S) n
theorem st_okM {E F K S : Int → Int} {n bd : Int} (h : stS E F K n bd S) : okM S ∧ (50 ≤ S 6 ∧ S 6 ≤ 600) := by
  obtain ⟨⟨h1, h2, h3, h4, h5⟩, e7, e6, e1, e2, e3⟩ := h
  refine ⟨⟨fun j j0 j1 => by rw [← e1 j j0 j1]; exact h1 j j0 j1, by rw [e7]; exact h2, fun j j0 j1 => by rw [e7] at j1; rw [← e2 j j0 j1]; exact h3 j j0 j1, fun j j0 j1 => by rw [e7] at j1; rw [← e3 j j0 j1]; exact h4 j j0 j1⟩, by rw [e6]; exact h5⟩
theorem st_c {E F K S S2 : Int → Int} {n bd : Int} (h : stS E F K n bd S) (e : ∀ j : Int, 0 ≤ j → j < 48 → S2 j = S j) : stS E F K n bd S2 := by
  obtain ⟨h0, e7, e6, e1, e2, e3⟩ := h
  have hn := h0.2.1
  refine ⟨h0, by rw [e 7 (by omega) (by omega)]; exact e7, by rw [e 6 (by omega) (by omega)]; exact e6, fun j j0 j1 => by rw [e j j0 (by omega)]; exact e1 j j0 j1, fun j j0 j1 => ?_, fun j j0 j1 => ?_⟩
  · show F j = S2 (8 + j)
    rw [e (8 + j) (by omega) (by omega)]
    exact e2 j j0 j1
  · show K j = S2 (28 + j)
    rw [e (28 + j) (by omega) (by omega)]
    exact e3 j j0 j1
theorem insZ_ok {F : Int → Int} {P : Int → Prop} {n p v : Int} (h : ∀ j : Int, 0 ≤ j → j < n → P (F j)) (hp : 0 ≤ p ∧ p ≤ n) (hv : P v) : ∀ j : Int, 0 ≤ j → j < n + 1 → P (insZ F p n v j) := by
  intro j h0 h1
  unfold insZ
  split
  · exact hv
  · split
    · exact h (j - 1) (by omega) (by omega)
    · exact h j h0 (by omega)
theorem remZ_ok {F : Int → Int} {P : Int → Prop} {n p : Int} (h : ∀ j : Int, 0 ≤ j → j < n → P (F j)) (hp : 0 ≤ p ∧ p < n) : ∀ j : Int, 0 ≤ j → j < n - 1 → P (remZ F p n j) := by
  intro j h0 h1
  unfold remZ
  split
  · exact h (j + 1) (by omega) (by omega)
  · exact h j h0 (by omega)
theorem uZ_ok {F : Int → Int} {P : Int → Prop} {n p v : Int} (h : ∀ j : Int, 0 ≤ j → j < n → P (F j)) (hv : P v) : ∀ j : Int, 0 ≤ j → j < n → P (uZ F p v j) := by
  intro j h0 h1
  unfold uZ
  split
  · exact hv
  · exact h j h0 h1
theorem st_put {E F K S S2 : Int → Int} {n bd q v : Int} (h : stS E F K n bd S) (hq : 0 ≤ q ∧ q ≤ n) (hv : -1 ≤ v ∧ v < 26) (hn : n < 20) (p1 : ∀ j : Int, 0 ≤ j → j < 7 → S2 j = S j) (p2 : S2 7 = S 7 + 1) (p3 : ∀ j : Int, 0 ≤ j → j < S 7 + 1 → S2 (8 + j) = insZ (sF S) q (S 7) v j) (p4 : ∀ j : Int, 0 ≤ j → j < S 7 + 1 → S2 (28 + j) = insZ (sK S) q (S 7) 0 j) : stS E (insZ F q n v) (insZ K q n 0) (n + 1) bd S2 := by
  obtain ⟨⟨h1, h2, h3, h4, h5⟩, e7, e6, e1, e2, e3⟩ := h
  rw [e7] at p2 p3 p4
  refine ⟨⟨h1, ⟨by omega, by omega⟩, insZ_ok (P := fun x => -1 ≤ x ∧ x < 26) h3 hq hv, insZ_ok (P := fun x => -5 ≤ x ∧ x ≤ 5) h4 hq (by omega), h5⟩, p2, by rw [p1 6 (by omega) (by omega)]; exact e6, fun j j0 j1 => by rw [p1 j j0 (by omega)]; exact e1 j j0 j1, fun j j0 j1 => ?_, fun j j0 j1 => ?_⟩
  · show _ = S2 (8 + j)
    rw [p3 j j0 j1]
    unfold insZ
    split
    · rfl
    · split
      · exact e2 (j - 1) (by omega) (by omega)
      · exact e2 j j0 (by omega)
  · show _ = S2 (28 + j)
    rw [p4 j j0 j1]
    unfold insZ
    split
    · rfl
    · split
      · exact e3 (j - 1) (by omega) (by omega)
      · exact e3 j j0 (by omega)
theorem st_drop {E F K S S2 : Int → Int} {n bd q : Int} (h : stS E F K n bd S) (hq : 0 ≤ q ∧ q < n) (p1 : ∀ j : Int, 0 ≤ j → j < 7 → S2 j = S j) (p2 : S2 7 = S 7 - 1) (p3 : ∀ j : Int, 0 ≤ j → j < S 7 - 1 → S2 (8 + j) = remZ (sF S) q (S 7) j) (p4 : ∀ j : Int, 0 ≤ j → j < S 7 - 1 → S2 (28 + j) = remZ (sK S) q (S 7) j) : stS E (remZ F q n) (remZ K q n) (n - 1) bd S2 := by
  obtain ⟨⟨h1, h2, h3, h4, h5⟩, e7, e6, e1, e2, e3⟩ := h
  rw [e7] at p2 p3 p4
  refine ⟨⟨h1, ⟨by omega, by omega⟩, remZ_ok (P := fun x => -1 ≤ x ∧ x < 26) h3 hq, remZ_ok (P := fun x => -5 ≤ x ∧ x ≤ 5) h4 hq, h5⟩, p2, by rw [p1 6 (by omega) (by omega)]; exact e6, fun j j0 j1 => by rw [p1 j j0 (by omega)]; exact e1 j j0 j1, fun j j0 j1 => ?_, fun j j0 j1 => ?_⟩
  · show _ = S2 (8 + j)
    rw [p3 j j0 j1]
    unfold remZ
    split
    · exact e2 (j + 1) (by omega) (by omega)
    · exact e2 j j0 (by omega)
  · show _ = S2 (28 + j)
    rw [p4 j j0 j1]
    unfold remZ
    split
    · exact e3 (j + 1) (by omega) (by omega)
    · exact e3 j j0 (by omega)
theorem st_swap {E F K S : Int → Int} {n bd q w : Int} (h : stS E F K n bd S) (hq : 0 ≤ q ∧ q < n) (hw : 0 ≤ w ∧ w < n) : stS E (exZ F q w) (exZ K q w) n bd (swS S q w) := by
  obtain ⟨⟨h1, h2, h3, h4, h5⟩, e7, e6, e1, e2, e3⟩ := h
  have lo : ∀ j : Int, j < 8 → swS S q w j = S j := fun j hj => swS_lo hq.1 hw.1 hj
  refine ⟨⟨h1, h2, exZ_ok (P := fun x => -1 ≤ x ∧ x < 26) h3 hq hw, exZ_ok (P := fun x => -5 ≤ x ∧ x ≤ 5) h4 hq hw, h5⟩, by rw [lo 7 (by omega)]; exact e7, by rw [lo 6 (by omega)]; exact e6, fun j j0 j1 => by rw [lo j (by omega)]; exact e1 j j0 j1, fun j j0 j1 => ?_, fun j j0 j1 => ?_⟩
  · rw [swS_F (by omega) (by omega) (by omega)]
    unfold exZ uZ
    split
    · exact e2 q hq.1 hq.2
    · split
      · exact e2 w hw.1 hw.2
      · exact e2 j j0 j1
  · rw [swS_K (by omega) (by omega) (by omega)]
    unfold exZ uZ
    split
    · exact e3 q hq.1 hq.2
    · split
      · exact e3 w hw.1 hw.2
      · exact e3 j j0 j1
theorem st_kern {E F K S : Int → Int} {n bd q v : Int} (h : stS E F K n bd S) (hq : 0 ≤ q ∧ q < n) (hv : -5 ≤ v ∧ v ≤ 5) : stS E F (uZ K q v) n bd (uZ S (28 + q) v) := by
  obtain ⟨⟨h1, h2, h3, h4, h5⟩, e7, e6, e1, e2, e3⟩ := h
  refine ⟨⟨h1, h2, h3, uZ_ok (P := fun x => -5 ≤ x ∧ x ≤ 5) h4 hv, h5⟩, by rw [uZ_ne (by omega)]; exact e7, by rw [uZ_ne (by omega)]; exact e6, fun j j0 j1 => by rw [uZ_ne (by omega)]; exact e1 j j0 j1, fun j j0 j1 => ?_, fun j j0 j1 => ?_⟩
  · show F j = uZ S (28 + q) v (8 + j)
    rw [uZ_ne (by omega)]
    exact e2 j j0 j1
  · show uZ K q v j = uZ S (28 + q) v (28 + j)
    unfold uZ
    by_cases e : j = q
    · rw [if_pos e, if_pos (by omega)]
    · rw [if_neg e, if_neg (by omega)]
      exact e3 j j0 j1
theorem st_board {E F K S : Int → Int} {n bd v : Int} (h : stS E F K n bd S) (hv : 50 ≤ v ∧ v ≤ 600) : stS E F K n v (uZ S 6 v) := by
  obtain ⟨⟨h1, h2, h3, h4, h5⟩, e7, e6, e1, e2, e3⟩ := h
  refine ⟨⟨h1, h2, h3, h4, hv⟩, by rw [uZ_ne (by omega)]; exact e7, uZ_at _ _ _, fun j j0 j1 => by rw [uZ_ne (by omega)]; exact e1 j j0 j1, fun j j0 j1 => ?_, fun j j0 j1 => ?_⟩
  · show F j = uZ S 6 v (8 + j)
    rw [uZ_ne (by omega)]
    exact e2 j j0 j1
  · show K j = uZ S 6 v (28 + j)
    rw [uZ_ne (by omega)]
    exact e3 j j0 j1
theorem st_set {E F K S : Int → Int} {n bd q v : Int} (h : stS E F K n bd S) (hq : 0 ≤ q ∧ q < 6) (hv : zLs q ≤ v ∧ v ≤ zMs q) : stS (uZ E q v) F K n bd (uZ S q v) := by
  obtain ⟨⟨h1, h2, h3, h4, h5⟩, e7, e6, e1, e2, e3⟩ := h
  refine ⟨⟨okE_u h1 hv, h2, h3, h4, h5⟩, by rw [uZ_ne (by omega)]; exact e7, by rw [uZ_ne (by omega)]; exact e6, fun j j0 j1 => ?_, fun j j0 j1 => ?_, fun j j0 j1 => ?_⟩
  · unfold uZ
    split
    · rfl
    · exact e1 j j0 j1
  · show F j = uZ S q v (8 + j)
    rw [uZ_ne (by omega)]
    exact e2 j j0 j1
  · show K j = uZ S q v (28 + j)
    rw [uZ_ne (by omega)]
    exact e3 j j0 j1
/-! what a text writes is a line -/
theorem wr_ok {C F K : Int → Int} {len : Int} (hC : ∀ j : Int, 0 ≤ j → j < len → ¬ bdC C j = true) : ∀ i : Nat, (i : Int) ≤ len → okF (wrF C F i) (mS C i) ∧ okK (wrK C K i) (mS C i)
  | 0, _ => ⟨fun j h0 h1 => by have : mS C ((0 : Nat) : Int) = 0 := rfl; omega, fun j h0 h1 => by have : mS C ((0 : Nat) : Int) = 0 := rfl; omega⟩
  | i + 1, h => by
    have ih := wr_ok (F := F) (K := K) hC i (by omega)
    have nb := hC i (by omega) (by omega)
    have m0 := mS_r C (i := (i : Int)) (by omega)
    have em := mS_s C (i := (i : Int)) (by omega)
    have ec : (((i + 1 : Nat)) : Int) = (i : Int) + 1 := by omega
    rw [ec, em]
    have eF := wrF_s C F (i := (i : Int)) (by omega)
    have eK := wrK_s C K (i := (i : Int)) (by omega)
    rw [show ((i : Int) + 1).toNat = i + 1 by omega, show ((i : Int)).toNat = i by omega] at eF eK
    rw [eF, eK]
    by_cases ht : isT (C i) = true
    · have hit : itC C i = true := Classical.byContradiction fun w => nb (bdC_t.mpr ⟨w, fun z => by have a1 := isK_t.mp z.1; have a2 := isT_t.mp ht; omega, fun z => by have a1 := isF_t.mp z.1; have a2 := isT_t.mp ht; omega⟩)
      rw [if_pos ht, if_pos ht, if_pos hit]
      have a2 := isT_t.mp ht
      refine ⟨insZ_ok (P := fun x => -1 ≤ x ∧ x < 26) ih.1 ⟨m0.1, Int.le_refl _⟩ ?_, insZ_ok (P := fun x => -5 ≤ x ∧ x ≤ 5) ih.2 ⟨m0.1, Int.le_refl _⟩ (by omega)⟩
      by_cases hl : isL (C i) = true
      · rw [if_pos hl]
        have := isL_t.mp hl
        omega
      · rw [if_neg hl]; omega
    · have hit : ¬ itC C i = true := fun w => ht (itC_t.mp w).1
      rw [if_neg ht, if_neg ht, if_neg hit]
      refine ⟨ih.1, ?_⟩
      by_cases hf : isF (C i) = true
      · rw [if_pos hf]
        have := isF_t.mp hf
        refine uZ_ok (P := fun x => -5 ≤ x ∧ x ≤ 5) ih.2 ?_
        split <;> omega
      · rw [if_neg hf]; exact ih.2
theorem st_line {E F K S S2 C : Int → Int} {n bd len : Int} (h : stS E F K n bd S) (hlen : 0 ≤ len) (hcm : cmP C len = true) (p1 : ∀ j : Int, 0 ≤ j → j < 7 → S2 j = S j) (p2 : S2 7 = mS C len) (p3 : ∀ (F : Int → Int) (j : Int), 0 ≤ j → j < mS C len → S2 (8 + j) = wrF C F (Int.toNat len) j) (p4 : ∀ (F : Int → Int) (j : Int), 0 ≤ j → j < mS C len → S2 (28 + j) = wrK C F (Int.toNat len) j) : stS E (wrF C F (Int.toNat len)) (wrK C K (Int.toNat len)) (mS C len) bd S2 := by
  obtain ⟨⟨h1, h2, h3, h4, h5⟩, e7, e6, e1, e2, e3⟩ := h
  have hno := cmP_no hcm
  have hm := mS_r C hlen
  have hw := wr_ok (F := F) (K := K) hno len.toNat (by omega)
  rw [show ((len.toNat : Nat) : Int) = len by omega] at hw
  exact ⟨⟨h1, hm, hw.1, hw.2, h5⟩, p2, by rw [p1 6 (by omega) (by omega)]; exact e6, fun j j0 j1 => by rw [p1 j j0 (by omega)]; exact e1 j j0 j1, fun j j0 j1 => (p3 F j j0 j1).symm, fun j j0 j1 => (p4 K j j0 j1).symm⟩
/-! the saved states -/
def rgS (old sz : Int) (pn pb : Int → Int) (PF PK PE : Int → Int → Int) (V : Int → Int) : Prop := ∀ a : Int, 0 ≤ a → a < sz → stS (PE ((old + a) % 6)) (PF ((old + a) % 6)) (PK ((old + a) % 6)) (pn ((old + a) % 6)) (pb ((old + a) % 6)) (fun j => V (48 * a + j))
theorem rg_save {E F K S V pn pb : Int → Int} {PF PK PE : Int → Int → Int} {n bd old sz : Int} (h : stS E F K n bd S) (ho : 0 ≤ old ∧ old < 6) (hs : 0 ≤ sz ∧ sz ≤ 6) (hr : rgS old sz pn pb PF PK PE V) : rgS (pOld old sz) (pSz sz + 1) (uZ pn ((pOld old sz + pSz sz) % 6) n) (uZ pb ((pOld old sz + pSz sz) % 6) bd) (uR PF ((pOld old sz + pSz sz) % 6) F) (uR PK ((pOld old sz + pSz sz) % 6) K) (uR PE ((pOld old sz + pSz sz) % 6) E) (svS V sz S) := by
  intro a a0 a1
  have hp := pOld_r (sz := sz) ho
  have hz := pSz_r hs
  by_cases e : a = pSz sz
  · subst e
    unfold uR uZ
    rw [if_pos rfl, if_pos rfl, if_pos rfl, if_pos rfl, if_pos rfl]
    refine st_c h (fun j j0 j1 => ?_)
    show svS V sz S (48 * pSz sz + j) = S j
    unfold svS
    rw [if_pos (by omega), show 48 * pSz sz + j - 48 * pSz sz = j by omega]
  · have ne : ¬ (pOld old sz + a) % 6 = (pOld old sz + pSz sz) % 6 := by omega
    unfold uR uZ
    rw [if_neg ne, if_neg ne, if_neg ne, if_neg ne, if_neg ne]
    by_cases s6 : 6 ≤ sz
    · have eo : (pOld old sz + a) % 6 = (old + (a + 1)) % 6 := by
        unfold pOld
        rw [if_pos s6]
        omega
      have ez : pSz sz = 5 := by unfold pSz; rw [if_pos s6]
      rw [eo]
      refine st_c (hr (a + 1) (by omega) (by omega)) (fun j j0 j1 => ?_)
      show svS V sz S (48 * a + j) = V (48 * (a + 1) + j)
      unfold svS
      rw [if_neg (by omega), if_pos (by omega), show 48 * a + j + 48 = 48 * (a + 1) + j by omega]
    · have eo : pOld old sz = old := by unfold pOld; rw [if_neg s6]
      have ez : pSz sz = sz := by unfold pSz; rw [if_neg s6]
      rw [eo]
      refine st_c (hr a a0 (by omega)) (fun j j0 j1 => ?_)
      show svS V sz S (48 * a + j) = V (48 * a + j)
      unfold svS
      rw [if_neg (by omega), if_neg (by omega)]
theorem rg_undo {V pn pb : Int → Int} {PF PK PE : Int → Int → Int} {old sz : Int} (hr : rgS old sz pn pb PF PK PE V) : rgS old (sz - 1) pn pb PF PK PE V := fun a a0 a1 => hr a a0 (by omega)
theorem st_undo {V pn pb : Int → Int} {PF PK PE : Int → Int → Int} {old sz : Int} (hs : 0 < sz) (hr : rgS old sz pn pb PF PK PE V) : stS (PE ((old + (sz - 1)) % 6)) (PF ((old + (sz - 1)) % 6)) (PK ((old + (sz - 1)) % 6)) (pn ((old + (sz - 1)) % 6)) (pb ((old + (sz - 1)) % 6)) (fun j => V (48 * (sz - 1) + j)) := hr (sz - 1) (by omega) (by omega)
theorem st_0 : stS zFs (fun _ => 0) (fun _ => 0) 0 300 (uZ (uZ (uZ (uZ (uZ (uZ (uZ (fun _ => 0) 0 1) 1 20) 2 8) 3 60) 4 1) 5 15) 6 300) := by
  refine ⟨⟨fun j j0 j1 => ?_, by omega, fun j j0 j1 => by omega, fun j j0 j1 => by omega, by omega⟩, rfl, rfl, fun j j0 j1 => ?_, fun j j0 j1 => by omega, fun j j0 j1 => by omega⟩
  · rcases (show j = 0 ∨ j = 1 ∨ j = 2 ∨ j = 3 ∨ j = 4 ∨ j = 5 by omega) with rfl | rfl | rfl | rfl | rfl | rfl <;> decide
  · rcases (show j = 0 ∨ j = 1 ∨ j = 2 ∨ j = 3 ∨ j = 4 ∨ j = 5 by omega) with rfl | rfl | rfl | rfl | rfl | rfl <;> rfl
