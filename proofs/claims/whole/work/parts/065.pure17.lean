/-! ===== pure: reading a text item by item ===== -/
def sgC (C : Int → Int) (len i : Int) : Int := if i < len then C i else 0
theorem sgC_in {C : Int → Int} {len i : Int} (h : i < len) : sgC C len i = C i := if_pos h
theorem sgC_out {C : Int → Int} {len i : Int} (h : len ≤ i) : sgC C len i = 0 := if_neg (by omega)
def kvC (C : Int → Int) (len i : Int) : Int := if 49 ≤ sgC C len (i + 1) ∧ sgC C len (i + 1) ≤ 53 then (if C i = 43 then sgC C len (i + 1) - 48 else -(sgC C len (i + 1) - 48)) else 0
theorem bfC_p (C : Int → Int) {i : Int} (h : 0 < i) : bfC C i = C (i - 1) := if_pos h
theorem bfC_s (C : Int → Int) {i : Int} (h : 0 ≤ i) : bfC C (i + 1) = C i := by
  rw [bfC_p C (i := i + 1) (by omega), show i + 1 - 1 = i by omega]
/-- what stands when the items before the character i are read -/
def rdI (C : Int → Int) (len i rm : Int) (RL RK : Int → Int) : Prop :=
  (0 ≤ i ∧ i ≤ len) ∧ (∀ j : Int, 0 ≤ j → j < i → ¬ bdC C j = true) ∧ rm = mS C i ∧ ¬ isK (bfC C i) = true ∧ ¬ (isL (bfC C i) = true ∧ isK (sgC C len i) = true) ∧ (∀ (F : Int → Int) (j : Int), 0 ≤ j → j < rm → RL j = wrF C F i.toNat j) ∧ (∀ (F : Int → Int) (j : Int), 0 ≤ j → j < rm → RK j = wrK C F i.toNat j)
theorem rd_0 (C : Int → Int) {len : Int} (h : 0 ≤ len) (RL RK : Int → Int) : rdI C len 0 0 RL RK := by
  refine ⟨⟨by omega, h⟩, fun j h0 h1 => by omega, rfl, by show ¬ isK 0 = true; decide, fun w => absurd w.1 (by show ¬ isL 0 = true; decide), fun F j h0 h1 => by omega, fun F j h0 h1 => by omega⟩
theorem rd_rm {C : Int → Int} {len i rm : Int} {RL RK : Int → Int} (h : rdI C len i rm RL RK) : 0 ≤ rm ∧ rm ≤ 20 := by
  rw [h.2.2.1]
  exact mS_r C h.1.1
theorem cm_f {C : Int → Int} {len : Int} (h : erS C len ≠ len ∨ len ≤ 0 ∨ isK (C (len - 1)) = true) : cmP C len = false := by
  rw [← Bool.not_eq_true]
  intro w
  rw [cmP_t] at w
  rcases h with h | h | h
  · exact h w.2.1
  · omega
  · exact w.2.2 h
theorem er_at {C : Int → Int} {len i : Int} (h0 : 0 ≤ i) (h1 : i < len) (hno : ∀ j : Int, 0 ≤ j → j < i → ¬ bdC C j = true) (hb : bdC C i = true) : erS C len = i := by
  have rg := fiS_r (bdC C) (len := len) _ 0 rfl (by omega)
  have f := fiS_first (bdC C) (len := len) _ 0 rfl (by omega)
  unfold erS
  by_cases e : fiS (bdC C) len 0 < i
  · exact absurd (fiS_hit (bdC C) (len := len) _ 0 rfl (by omega) (by omega)) (hno _ rg.1 e)
  · by_cases e2 : i < fiS (bdC C) len 0
    · exact absurd hb (f i h0 e2)
    · omega
theorem er_len {C : Int → Int} {len : Int} (h : 0 ≤ len) (hno : ∀ j : Int, 0 ≤ j → j < len → ¬ bdC C j = true) : erS C len = len := by
  have rg := fiS_r (bdC C) (len := len) _ 0 rfl h
  unfold erS
  by_cases e : fiS (bdC C) len 0 < len
  · exact absurd (fiS_hit (bdC C) (len := len) _ 0 rfl h e) (hno _ rg.1 e)
  · omega
theorem rd_bad {C : Int → Int} {len i rm : Int} {RL RK : Int → Int} (h : rdI C len i rm RL RK) (hi : i < len ∨ i = 0) (hx : rm = 20 ∨ ¬ isT (sgC C len i) = true) : i = erS C len ∧ cmP C len = false := by
  obtain ⟨h1, h2, h3, h4, h5, -, -⟩ := h
  by_cases e : i < len
  · rw [sgC_in e] at *
    have nb : bdC C i = true := by
      rw [bdC_t, itC_t]
      refine ⟨fun w => ?_, fun w => h5 ⟨w.2, w.1⟩, fun w => h4 w.2⟩
      rcases hx with hx | hx
      · have := w.2.2; omega
      · exact hx w.1
    have er := er_at h1.1 e h2 nb
    exact ⟨er.symm, cm_f (Or.inl (by omega))⟩
  · have er := er_len (C := C) (len := len) (by omega) (fun j j0 j1 => h2 j j0 (by omega))
    exact ⟨by omega, cm_f (Or.inr (Or.inl (by omega)))⟩
theorem isT_it {C : Int → Int} {len i rm : Int} {RL RK : Int → Int} (h : rdI C len i rm RL RK) (hr : rm < 20) (ht : isT (C i) = true) : itC C i = true := by
  rw [itC_t]
  exact ⟨ht, h.2.2.2.1, by have := h.2.2.1; omega⟩
theorem it_nb {C : Int → Int} {i : Int} (h : itC C i = true) : ¬ bdC C i = true := by
  rw [bdC_t]
  exact fun w => w.1 h
theorem insZ_e (F : Int → Int) (n v : Int) : insZ F n n v = uZ F n v := funext fun j => by
  unfold insZ uZ
  by_cases e : j = n
  · rw [if_pos e, if_pos e]
  · rw [if_neg e, if_neg e, if_neg (by omega)]
/-- one item more, a letter or a blank -/
theorem rd_item {C : Int → Int} {len i rm : Int} {RL RK : Int → Int} (h : rdI C len i rm RL RK) (hi : i < len) (hr : rm < 20) (ht : isT (C i) = true) (hn : ¬ (isL (C i) = true ∧ isK (sgC C len (i + 1)) = true)) : rdI C len (i + 1) (rm + 1) (uZ RL rm (if isL (C i) = true then C i - 65 else -1)) (uZ RK rm 0) := by
  have it := isT_it h hr ht
  obtain ⟨h1, h2, h3, h4, h5, h6, h7⟩ := h
  refine ⟨⟨by omega, by omega⟩, fun j j0 j1 => ?_, ?_, ?_, ?_, fun F j j0 j1 => ?_, fun F j j0 j1 => ?_⟩
  · by_cases e : j = i
    · rw [e]; exact it_nb it
    · exact h2 j j0 (by omega)
  · rw [mS_s C h1.1, if_pos it, h3]
  · rw [bfC_s C h1.1, isK_t]
    have := isT_t.mp ht
    omega
  · rw [bfC_s C h1.1]
    exact hn
  · rw [wrF_s C F h1.1, if_pos ht, insZ_e, ← h3]
    unfold uZ
    by_cases e : j = rm
    · rw [if_pos e, if_pos e]
    · rw [if_neg e, if_neg e]
      exact h6 F j j0 (by omega)
  · rw [wrK_s C F h1.1, if_pos ht, insZ_e, ← h3]
    unfold uZ
    by_cases e : j = rm
    · rw [if_pos e, if_pos e]
    · rw [if_neg e, if_neg e]
      exact h7 F j j0 (by omega)
/-- a letter with its kern -/
theorem rd_kern {C : Int → Int} {len i rm : Int} {RL RK : Int → Int} (h : rdI C len i rm RL RK) (hr : rm < 20) (hl : isL (C i) = true) (hk : isK (sgC C len (i + 1)) = true) (hf : 49 ≤ sgC C len (i + 2) ∧ sgC C len (i + 2) ≤ 53) : rdI C len (i + 3) (rm + 1) (uZ RL rm (C i - 65)) (uZ (uZ RK rm 0) rm (kvC C len (i + 1))) := by
  have i2 : i + 2 < len := by
    by_cases e : i + 2 < len
    · exact e
    · rw [sgC_out (by omega)] at hf; omega
  have ht : isT (C i) = true := by rw [isT_t]; right; exact isL_t.mp hl
  have it := isT_it h hr ht
  rw [sgC_in i2] at hf
  rw [sgC_in (by omega)] at hk
  obtain ⟨h1, h2, h3, h4, h5, h6, h7⟩ := h
  have k1 := isK_t.mp hk
  have f2 : isF (C (i + 2)) = true := isF_t.mpr hf
  have b1 : bfC C (i + 1) = C i := bfC_s C h1.1
  have b2 : bfC C (i + 2) = C (i + 1) := by rw [bfC_p C (i := i + 2) (by omega), show i + 2 - 1 = i + 1 by omega]
  have n1 : ¬ itC C (i + 1) = true := fun w => by have := isT_t.mp (itC_t.mp w).1; omega
  have n2 : ¬ itC C (i + 2) = true := fun w => by have := isT_t.mp (itC_t.mp w).1; omega
  have m1 : mS C (i + 1) = mS C i + 1 := by rw [mS_s C h1.1, if_pos it]
  have m2 : mS C (i + 2) = mS C i + 1 := by rw [show i + 2 = i + 1 + 1 by omega, mS_s C (by omega), if_neg n1, m1]
  have m3 : mS C (i + 3) = mS C i + 1 := by rw [show i + 3 = i + 2 + 1 by omega, mS_s C (by omega), if_neg n2, m2]
  have t1 : ¬ isT (C (i + 1)) = true := fun w => by have := isT_t.mp w; omega
  have t2 : ¬ isT (C (i + 2)) = true := fun w => by have := isT_t.mp w; omega
  have f1 : ¬ isF (C (i + 1)) = true := fun w => by have := isF_t.mp w; omega
  refine ⟨⟨by omega, by omega⟩, fun j j0 j1 => ?_, by rw [m3, h3], ?_, ?_, fun F j j0 j1 => ?_, fun F j j0 j1 => ?_⟩
  · by_cases e : j = i
    · rw [e]; exact it_nb it
    · by_cases e1 : j = i + 1
      · rw [e1, bdC_t]
        exact fun w => w.2.1 ⟨hk, by rw [b1]; exact hl⟩
      · by_cases e2 : j = i + 2
        · rw [e2, bdC_t]
          exact fun w => w.2.2 ⟨f2, by rw [b2]; exact hk⟩
        · exact h2 j j0 (by omega)
  · rw [show i + 3 = i + 2 + 1 by omega, bfC_s C (by omega), isK_t]
    omega
  · rw [show i + 3 = i + 2 + 1 by omega, bfC_s C (by omega)]
    intro w
    have := isL_t.mp w.1
    omega
  · rw [show i + 3 = i + 2 + 1 by omega, wrF_s C F (by omega), if_neg t2, show i + 2 = i + 1 + 1 by omega, wrF_s C F (by omega), if_neg t1, wrF_s C F h1.1, if_pos ht, insZ_e, ← h3, if_pos hl]
    unfold uZ
    by_cases e : j = rm
    · rw [if_pos e, if_pos e]
    · rw [if_neg e, if_neg e]
      exact h6 F j j0 (by omega)
  · rw [show i + 3 = i + 2 + 1 by omega, wrK_s C F (by omega), if_neg t2, if_pos f2, m2, show i + 2 = i + 1 + 1 by omega, wrK_s C F (by omega), if_neg t1, if_neg f1, wrK_s C F h1.1, if_pos ht, insZ_e, ← h3]
    have ek : kvC C len (i + 1) = if C (i + 1 + 1 - 1) = 45 then -(C (i + 1 + 1) - 48) else C (i + 1 + 1) - 48 := by
      unfold kvC
      rw [show i + 1 + 1 = i + 2 by omega, sgC_in i2, if_pos hf, show i + 2 - 1 = i + 1 by omega]
      by_cases e : C (i + 1) = 43
      · rw [if_pos e, if_neg (by omega)]
      · rw [if_neg e, if_pos (by omega)]
    rw [ek]
    generalize (if C (i + 1 + 1 - 1) = 45 then -(C (i + 1 + 1) - 48) else C (i + 1 + 1) - 48) = v
    unfold uZ
    by_cases e : j = rm
    · rw [if_pos e, if_pos (show j = rm + 1 - 1 by omega)]
    · rw [if_neg e, if_neg (show ¬ j = rm + 1 - 1 by omega), if_neg e, if_neg e]
      exact h7 F j j0 (by omega)
/-- a letter with a sign and no figure -/
theorem rd_end {C : Int → Int} {len i rm : Int} {RL RK : Int → Int} (h : rdI C len i rm RL RK) (hi : i < len) (hr : rm < 20) (hl : isL (C i) = true) (hk : isK (sgC C len (i + 1)) = true) (hf : ¬ (49 ≤ sgC C len (i + 2) ∧ sgC C len (i + 2) ≤ 53)) : i + 2 = erS C len ∧ cmP C len = false := by
  have i1 : i + 1 < len := by
    by_cases e : i + 1 < len
    · exact e
    · rw [sgC_out (by omega)] at hk; exact absurd hk (by decide)
  have ht : isT (C i) = true := by rw [isT_t]; right; exact isL_t.mp hl
  have it := isT_it h hr ht
  rw [sgC_in i1] at hk
  obtain ⟨h1, h2, h3, h4, h5, h6, h7⟩ := h
  have k1 := isK_t.mp hk
  have b1 : bfC C (i + 1) = C i := bfC_s C h1.1
  have b2 : bfC C (i + 2) = C (i + 1) := by rw [bfC_p C (i := i + 2) (by omega), show i + 2 - 1 = i + 1 by omega]
  have no : ∀ j : Int, 0 ≤ j → j < i + 2 → ¬ bdC C j = true := fun j j0 j1 => by
    by_cases e : j = i
    · rw [e]; exact it_nb it
    · by_cases e1 : j = i + 1
      · rw [e1, bdC_t]
        exact fun w => w.2.1 ⟨hk, by rw [b1]; exact hl⟩
      · exact h2 j j0 (by omega)
  by_cases e : i + 2 < len
  · rw [sgC_in e] at hf
    have nb : bdC C (i + 2) = true := by
      rw [bdC_t]
      refine ⟨fun w => (itC_t.mp w).2.1 (by rw [b2]; exact hk), fun w => ?_, fun w => hf (isF_t.mp w.1)⟩
      have := isL_t.mp (by rw [b2] at w; exact w.2)
      omega
    have er := er_at (by omega) e no nb
    exact ⟨er.symm, cm_f (Or.inl (by omega))⟩
  · have el : len = i + 2 := by omega
    have er := er_len (C := C) (len := len) (by omega) (fun j j0 j1 => no j j0 (by omega))
    exact ⟨by omega, cm_f (Or.inr (Or.inr (by rw [el, show i + 2 - 1 = i + 1 by omega]; exact hk)))⟩
theorem rd_all {C : Int → Int} {len i rm : Int} {RL RK : Int → Int} (h : rdI C len i rm RL RK) (hi : len ≤ i) (h0 : 0 < i) : i = len ∧ cmP C len = true ∧ erS C len = len ∧ rm = mS C len := by
  obtain ⟨h1, h2, h3, h4, h5, h6, h7⟩ := h
  have e : i = len := by omega
  subst e
  have er := er_len h1.1 h2
  refine ⟨rfl, ?_, er, h3⟩
  rw [cmP_t]
  refine ⟨h0, er, ?_⟩
  rw [← bfC_p C h0]
  exact h4
theorem rdo_b {C : Int → Int} {len i rm : Int} {RL RK : Int → Int} (h : rdI C len i rm RL RK) (hi : i < len ∨ i = 0) (hx : rm = 20 ∨ ¬ (sgC C len i = 95 ∨ (65 ≤ sgC C len i ∧ sgC C len i ≤ 90))) : i = erS C len ∧ cmP C len = false := rd_bad h hi (hx.imp id (fun w z => w (isT_t.mp z)))
theorem sg_lt {C : Int → Int} {len i : Int} (h : sgC C len i ≠ 0) : i < len := Int.not_le.mp fun w => h (sgC_out w)
theorem rdo_l {C : Int → Int} {len i rm : Int} {RL RK : Int → Int} (h : rdI C len i rm RL RK) (hr : rm < 20) (hl : 65 ≤ sgC C len i ∧ sgC C len i ≤ 90) (hk : ¬ sgC C len (i + 1) = 43 ∧ ¬ sgC C len (i + 1) = 45) : rdI C len (i + 1) (rm + 1) (uZ RL rm (sgC C len i - 65)) (uZ RK rm 0) ∧ i < i + 1 := by
  have i0 := sg_lt (C := C) (len := len) (i := i) (by omega)
  rw [sgC_in i0] at *
  have q := rd_item h i0 hr (isT_t.mpr (Or.inr hl)) (fun w => by have := isK_t.mp w.2; omega)
  rw [if_pos (isL_t.mpr hl)] at q
  exact ⟨q, by omega⟩
theorem rdo_u {C : Int → Int} {len i rm : Int} {RL RK : Int → Int} (h : rdI C len i rm RL RK) (hr : rm < 20) (hl : sgC C len i = 95) : rdI C len (i + 1) (rm + 1) (uZ RL rm (-1)) (uZ RK rm 0) ∧ i < i + 1 := by
  have i0 := sg_lt (C := C) (len := len) (i := i) (by omega)
  rw [sgC_in i0] at *
  have q := rd_item h i0 hr (isT_t.mpr (Or.inl hl)) (fun w => by have := isL_t.mp w.1; omega)
  rw [if_neg (fun w => by have := isL_t.mp w; omega)] at q
  exact ⟨q, by omega⟩
theorem rdo_k {C : Int → Int} {len i rm : Int} {RL RK : Int → Int} (h : rdI C len i rm RL RK) (hr : rm < 20) (hl : 65 ≤ sgC C len i ∧ sgC C len i ≤ 90) (hk : sgC C len (i + 1) = 43 ∨ sgC C len (i + 1) = 45) (hf : 49 ≤ sgC C len (i + 1 + 1) ∧ sgC C len (i + 1 + 1) ≤ 53) : rdI C len (i + 1 + 1 + (if 49 ≤ sgC C len (i + 1 + 1) ∧ sgC C len (i + 1 + 1) ≤ 53 then 1 else 0)) (rm + 1) (uZ RL rm (sgC C len i - 65)) (uZ (uZ RK rm 0) (rm + 1 - 1) (kvC C len (i + 1))) ∧ i < i + 1 + 1 + (if 49 ≤ sgC C len (i + 1 + 1) ∧ sgC C len (i + 1 + 1) ≤ 53 then 1 else 0) := by
  have i0 := sg_lt (C := C) (len := len) (i := i) (by omega)
  rw [if_pos hf]
  rw [sgC_in i0] at *
  have q := rd_kern h hr (isL_t.mpr hl) (isK_t.mpr hk) (by rw [show i + 2 = i + 1 + 1 by omega]; exact hf)
  rw [show i + 1 + 1 + 1 = i + 3 by omega, show rm + 1 - 1 = rm by omega]
  exact ⟨q, by omega⟩
theorem rdo_e {C : Int → Int} {len i rm : Int} {RL RK : Int → Int} (h : rdI C len i rm RL RK) (hr : rm < 20) (hl : 65 ≤ sgC C len i ∧ sgC C len i ≤ 90) (hk : sgC C len (i + 1) = 43 ∨ sgC C len (i + 1) = 45) (hf : ¬ (49 ≤ sgC C len (i + 1 + 1) ∧ sgC C len (i + 1 + 1) ≤ 53)) : i + 1 + 1 + (if 49 ≤ sgC C len (i + 1 + 1) ∧ sgC C len (i + 1 + 1) ≤ 53 then 1 else 0) = erS C len ∧ cmP C len = false := by
  have i0 := sg_lt (C := C) (len := len) (i := i) (by omega)
  rw [if_neg hf]
  rw [sgC_in i0] at *
  have q := rd_end h i0 hr (isL_t.mpr hl) (isK_t.mpr hk) (by rw [show i + 2 = i + 1 + 1 by omega]; exact hf)
  exact ⟨by omega, q.2⟩
theorem rd_dec {b w : Bool} {a c len : Int} (hw : w = true) (h : c ≤ a) (hb : b = true → c < a) : bI (b = true) + (len - a) < bI (w = true) + (len - c) := by
  rw [bI_t hw]
  by_cases q : b = true
  · rw [bI_t q]; have := hb q; omega
  · rw [bI_f q]; omega
