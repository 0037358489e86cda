/-! ===== pure: two lines that are alike ===== -/
def cEq (E F K E2 F2 K2 : Int → Int) (n : Int) : Prop := (∀ j : Int, 0 ≤ j → j < 6 → E j = E2 j) ∧ (∀ j : Int, 0 ≤ j → j < n → F j = F2 j) ∧ (∀ j : Int, 0 ≤ j → j < n → K j = K2 j)
section
variable {E F K E2 F2 K2 : Int → Int} {n : Int}
theorem cEq_0 (h : cEq E F K E2 F2 K2 n) : E 0 = E2 0 ∧ E 1 = E2 1 ∧ E 2 = E2 2 ∧ E 3 = E2 3 ∧ E 4 = E2 4 ∧ E 5 = E2 5 := ⟨h.1 0 (by omega) (by omega), h.1 1 (by omega) (by omega), h.1 2 (by omega) (by omega), h.1 3 (by omega) (by omega), h.1 4 (by omega) (by omega), h.1 5 (by omega) (by omega)⟩
theorem c_letA (h : cEq E F K E2 F2 K2 n) : letA F n = letA F2 n := funext fun j => by
  unfold letA
  by_cases q : 0 ≤ j ∧ j < n
  · rw [if_pos q, if_pos q]; exact h.2.1 j q.1 q.2
  · rw [if_neg q, if_neg q]
theorem c_prS (h : cEq E F K E2 F2 K2 n) : prS F n = prS F2 n := funext fun p => by
  unfold prS
  rw [c_letA h]
theorem c_inS (h : cEq E F K E2 F2 K2 n) : inS E F n = inS E2 F2 n := funext fun p => funext fun q => by
  unfold inS
  rw [c_letA h, (cEq_0 h).1]
theorem c_lgP (h : cEq E F K E2 F2 K2 n) : lgP E F n = lgP E2 F2 n := funext fun p => by
  obtain ⟨e0, e1, e2, e3, e4, e5⟩ := cEq_0 h
  unfold lgP
  rw [c_inS h, e1, e3]
theorem c_gpP (h : cEq E F K E2 F2 K2 n) {p : Int} (hp : prS F n p = true) : gpP E F K n p = gpP E2 F2 K2 n p := funext fun w => by
  obtain ⟨e0, e1, e2, e3, e4, e5⟩ := cEq_0 h
  have a := prS_in hp
  unfold gpP
  rw [c_lgP h, e4, h.2.2 p (by omega) a.2]
theorem c_bgP (h : cEq E F K E2 F2 K2 n) : bgP E F K n = bgP E2 F2 K2 n := funext fun p => funext fun w => by
  obtain ⟨e0, e1, e2, e3, e4, e5⟩ := cEq_0 h
  unfold bgP
  by_cases q : prS F n p = true
  · rw [if_pos q, if_pos (show prS F2 n p = true by rw [← c_prS h]; exact q), c_gpP h q]
  · rw [if_neg q, if_neg (show ¬ prS F2 n p = true by rw [← c_prS h]; exact q), c_letA h, e4]
theorem c_wdP (h : cEq E F K E2 F2 K2 n) : wdP E F n = wdP E2 F2 n := funext fun p => by
  obtain ⟨e0, e1, e2, e3, e4, e5⟩ := cEq_0 h
  unfold wdP
  rw [c_letA h, e2]
theorem c_enS (h : cEq E F K E2 F2 K2 n) : ∀ i : Nat, enS E F K n i = enS E2 F2 K2 n i
  | 0 => rfl
  | i + 1 => by
    show bgP E F K n i (enS E F K n i) + wdP E F n i = bgP E2 F2 K2 n i (enS E2 F2 K2 n i) + wdP E2 F2 n i
    rw [c_enS h i, c_bgP h, c_wdP h]
theorem c_enA (h : cEq E F K E2 F2 K2 n) : enA E F K n = enA E2 F2 K2 n := funext fun p => c_enS h p.toNat
theorem c_bgA (h : cEq E F K E2 F2 K2 n) : bgA E F K n = bgA E2 F2 K2 n := funext fun p => by
  unfold bgA
  rw [c_bgP h, c_enA h]
theorem c_gpA (h : cEq E F K E2 F2 K2 n) : gpA E F K n = gpA E2 F2 K2 n := funext fun p => by
  unfold gpA grP
  by_cases q : prS F n p = true
  · rw [if_pos q, if_pos (show prS F2 n p = true by rw [← c_prS h]; exact q), c_gpP h q, c_enA h]
  · rw [if_neg q, if_neg (show ¬ prS F2 n p = true by rw [← c_prS h]; exact q)]
theorem c_agP (h : cEq E F K E2 F2 K2 n) {p : Int} (hp : prS F n p = true) : agP E F K n p = agP E2 F2 K2 n p := funext fun w => by
  obtain ⟨e0, e1, e2, e3, e4, e5⟩ := cEq_0 h
  unfold agP
  rw [c_inS h, e1, c_gpP h hp]
theorem c_ahP (h : cEq E F K E2 F2 K2 n) {p : Int} (hp : prS F n p = true) : ahP E F K n p = ahP E2 F2 K2 n p := funext fun w => by
  obtain ⟨e0, e1, e2, e3, e4, e5⟩ := cEq_0 h
  unfold ahP
  rw [c_agP h hp, e3]
theorem c_arA (h : cEq E F K E2 F2 K2 n) : arA E F K n = arA E2 F2 K2 n := funext fun p => by
  unfold arA arP
  by_cases q : prS F n p = true
  · rw [if_pos q, if_pos (show prS F2 n p = true by rw [← c_prS h]; exact q), c_agP h q, c_enA h]
  · rw [if_neg q, if_neg (show ¬ prS F2 n p = true by rw [← c_prS h]; exact q)]
theorem c_shA (h : cEq E F K E2 F2 K2 n) : shA E F K n = shA E2 F2 K2 n := funext fun p => by
  unfold shA shP
  by_cases q : prS F n p = true
  · rw [if_pos q, if_pos (show prS F2 n p = true by rw [← c_prS h]; exact q), c_ahP h q, c_enA h]
  · rw [if_neg q, if_neg (show ¬ prS F2 n p = true by rw [← c_prS h]; exact q)]
theorem c_psN (h : cEq E F K E2 F2 K2 n) : psN F n = psN F2 n := by
  rw [psN_pc, psN_pc, c_prS h]
theorem c_fsF (h : cEq E F K E2 F2 K2 n) : fsF E F K n = fsF E2 F2 K2 n := funext fun p => by
  obtain ⟨e0, e1, e2, e3, e4, e5⟩ := cEq_0 h
  unfold fsF fsP
  by_cases q : prS F n p = true
  · rw [if_pos q, if_pos (show prS F2 n p = true by rw [← c_prS h]; exact q), c_ahP h q, c_enA h, e5]
  · rw [if_neg q, if_neg (show ¬ prS F2 n p = true by rw [← c_prS h]; exact q)]
theorem c_fsN (h : cEq E F K E2 F2 K2 n) : fsN E F K n = fsN E2 F2 K2 n := by
  unfold fsN
  rw [c_fsF h]
theorem cEq_u (h : cEq E F K E2 F2 K2 n) (s v : Int) : cEq (uZ E s v) F K (uZ E2 s v) F2 K2 n := ⟨fun j j0 j1 => by
  unfold uZ
  split
  · rfl
  · exact h.1 j j0 j1, h.2⟩
theorem c_ftS (h : cEq E F K E2 F2 K2 n) (s : Int) : ftS E F K n s = ftS E2 F2 K2 n s := funext fun v => c_fsN (cEq_u h s v)
theorem c_wdS (h : cEq E F K E2 F2 K2 n) (s : Int) : wdS E F K n s = wdS E2 F2 K2 n s := funext fun v => by
  unfold wdS
  rw [c_enA (cEq_u h s v)]
theorem c_gaS (h : cEq E F K E2 F2 K2 n) (bd : Int) : gaS E F K n bd = gaS E2 F2 K2 n bd := by
  unfold gaS
  rw [c_wdS h]
theorem c_bsS (h : cEq E F K E2 F2 K2 n) : bsS E F K n = bsS E2 F2 K2 n := by
  unfold bsS
  rw [c_ftS h]
theorem c_rkV (h : cEq E F K E2 F2 K2 n) (ff : Bool) : rkV ff E F K n = rkV ff E2 F2 K2 n := funext fun r => by
  unfold rkV rkQ
  rw [c_prS h, c_arA h, c_shA h]
theorem c_pnS (h : cEq E F K E2 F2 K2 n) (p : Int) : pnS E F K n p = pnS E2 F2 K2 n p := funext fun w => by
  unfold pnS
  rw [c_gpA h, c_arA h, c_shA h, c_fsF h]
theorem c_itS (h : cEq E F K E2 F2 K2 n) (p : Int) : itS E F K n p = itS E2 F2 K2 n p := funext fun w => by
  unfold itS
  have e : (if letA F n p = -1 then -1 else K p + 10) = (if letA F2 n p = -1 then -1 else K2 p + 10) := by
    rw [← c_letA h]
    by_cases q : letA F n p = -1
    · rw [if_pos q, if_pos q]
    · rw [if_neg q, if_neg q]
      have a := letA_in q
      rw [h.2.2 p a.1 a.2]
  rw [e, c_letA h, c_bgA h, c_enA h, c_prS h, c_pnS h]
theorem c_lnV (h : cEq E F K E2 F2 K2 n) (hn : 0 ≤ n) {bd sz w : Int} (hw : 0 ≤ w ∧ w < 16) : lnV E F K n bd sz w = lnV E2 F2 K2 n bd sz w := by
  have e1 : sumZ (cntF F) (Int.toNat n) = sumZ (cntF F2) (Int.toNat n) := sumZ_c _ (fun j j0 j1 => by
    unfold cntF
    rw [h.2.1 j j0 (by omega)])
  unfold lnV lnS mnS mxS
  rw [e1, c_psN h, c_fsN h, c_enA h, c_arA h, c_rkV h]
  by_cases q : 9 ≤ w ∧ w < 15
  · rw [h.1 (w - 9) (by omega) (by omega)]
  · rcases (show w = 0 ∨ w = 1 ∨ w = 2 ∨ w = 3 ∨ w = 4 ∨ w = 5 ∨ w = 6 ∨ w = 7 ∨ w = 8 ∨ w = 15 by omega) with rfl | rfl | rfl | rfl | rfl | rfl | rfl | rfl | rfl | rfl <;> rfl
theorem c_nkS (h : cEq E F K E2 F2 K2 n) : nkS E F K n = nkS E2 F2 K2 n := funext fun p => by
  obtain ⟨e0, e1, e2, e3, e4, e5⟩ := cEq_0 h
  unfold nkS
  rw [c_prS h, c_inS h, c_enA h, c_lgP h, e1, e3, e4]
theorem dgL_c {f g : Int → Int} : ∀ (m : Nat) (h : Int64), (∀ j : Int, 0 ≤ j → j < (m : Int) → f j = g j) → dgL f m h = dgL g m h
  | 0, _, _ => rfl
  | m + 1, h, e => by
    show mxI (dgL f m h) (f m) = mxI (dgL g m h) (g m)
    rw [dgL_c m h (fun j j0 j1 => e j j0 (by omega)), e m (by omega) (by omega)]
theorem c_dgS (h : cEq E F K E2 F2 K2 n) (hn : 0 ≤ n) {bd sz len : Int} {C C2 : Int → Int} (hC : ∀ j : Int, 0 ≤ j → j < len → C j = C2 j) (hl : 0 ≤ len) : dgS E F K n bd sz C len = dgS E2 F2 K2 n bd sz C2 len := by
  obtain ⟨e0, e1, e2, e3, e4, e5⟩ := cEq_0 h
  unfold dgS
  have ei : itS E F K n = itS E2 F2 K2 n := funext (c_itS h)
  rw [dgL_c (f := lnV E F K n bd sz) (g := lnV E2 F2 K2 n bd sz) 16 _ (fun j j0 j1 => c_lnV h hn ⟨j0, j1⟩), ei, c_nkS h, c_rkV h, c_rkV h, c_psN h, e0, c_ftS h, c_wdS h, c_gaS h, c_bsS h, c_fsN h]
  exact dgL_c _ _ (fun j j0 j1 => hC j j0 (by omega))
end
