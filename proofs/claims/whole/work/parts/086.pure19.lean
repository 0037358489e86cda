/-! ===== what the law's loop keeps ===== -/
def lwI (E F K : Int → Int) (n bd : Int) (S : Int → Int) (hs : Bool) (E2 F2 K2 : Int → Int) (n2 bd2 : Int) (T : Int → Int) (old sz : Int) (pn pb : Int → Int) (PF PK PE : Int → Int → Int) (Vm : Int → Int) (len : Int) (C : Int → Int) : Prop :=
  stS E F K n bd S ∧ (hs = true → stS E2 F2 K2 n2 bd2 T) ∧ (0 ≤ old ∧ old < 6) ∧ (0 ≤ sz ∧ sz ≤ 6) ∧ rgS old sz pn pb PF PK PE Vm ∧ (0 ≤ len ∧ len ≤ 60) ∧ (∀ j : Int, 0 ≤ j → j < len → 33 ≤ C j ∧ C j ≤ 126)
abbrev lwH (sl : Bool) (E F K : Int → Int) (n im ps fs wd rl wa sn al : Int) (V Bg En Lg Gp Ar Sh : Int → Int) (sz1 sz2 : Int) (P1 P2 : Int → Int) : Prop := ¬ sl = true → lyT E F K n im ps fs wd rl wa sn al V Bg En Lg Gp Ar Sh ∧ rkT false E F K n sz1 P1 ∧ rkT true E F K n sz2 P2
theorem lwH_t {E F K : Int → Int} {n im ps fs wd rl wa sn al : Int} {V Bg En Lg Gp Ar Sh : Int → Int} {sz1 sz2 : Int} {P1 P2 : Int → Int} : lwH true E F K n im ps fs wd rl wa sn al V Bg En Lg Gp Ar Sh sz1 sz2 P1 P2 := fun h => absurd rfl h
theorem lwH_f {E F K : Int → Int} {n : Int} {Bg En Lg Gp Ar Sh : Int → Int} {P1 P2 : Int → Int} (h1 : lyA E F K n Bg En Lg Gp Ar Sh) (h2 : rkOk (prS F n) (ahB false (arA E F K n) (shA E F K n)) n P1) (h3 : rkOk (prS F n) (ahB true (arA E F K n) (shA E F K n)) n P2) : lwH false E F K n n (psN F n) (fsN E F K n) (enA E F K n n) (E 1) (E 3) (E 4) (E 5) (edZ (E 0)) Bg En Lg Gp Ar Sh (pcS (prS F n) n) (pcS (prS F n) n) P1 P2 :=
  fun _ => ⟨⟨⟨rfl, rfl, rfl, rfl, rfl, rfl, rfl, rfl⟩, fun _ _ _ => rfl, h1⟩, ⟨rfl, h2⟩, ⟨rfl, h3⟩⟩
theorem lw_sv {E F K S V pn pb : Int → Int} {PF PK PE : Int → Int → Int} {n bd old sz : Int} {hs : Bool} {E2 F2 K2 : Int → Int} {n2 bd2 : Int} {T : Int → Int} {len : Int} {C : Int → Int} (h : lwI E F K n bd S hs E2 F2 K2 n2 bd2 T old sz pn pb PF PK PE V len C) {E9 F9 K9 S9 : Int → Int} {n9 bd9 : Int} (hst : stS E9 F9 K9 n9 bd9 S9) : lwI E9 F9 K9 n9 bd9 S9 hs E2 F2 K2 n2 bd2 T (pOld old sz) (pSz sz + 1) (uZ pn ((pOld old sz + pSz sz) % 6) n) (uZ pb ((pOld old sz + pSz sz) % 6) bd) (uR PF ((pOld old sz + pSz sz) % 6) F) (uR PK ((pOld old sz + pSz sz) % 6) K) (uR PE ((pOld old sz + pSz sz) % 6) E) (svS V sz S) len C := by
  obtain ⟨h1, h2, h3, h4, h5, h6, h7⟩ := h
  have q := pSz_r h4
  exact ⟨hst, h2, pOld_r h3, ⟨by omega, by omega⟩, rg_save h1 h3 h4 h5, h6, h7⟩
theorem lw_tx {E F K S V pn pb : Int → Int} {PF PK PE : Int → Int → Int} {n bd old sz : Int} {hs : Bool} {E2 F2 K2 : Int → Int} {n2 bd2 : Int} {T : Int → Int} {len : Int} {C : Int → Int} (h : lwI E F K n bd S hs E2 F2 K2 n2 bd2 T old sz pn pb PF PK PE V len C) {l9 : Int} {C9 : Int → Int} (hl : 0 ≤ l9 ∧ l9 ≤ 60) (hC : ∀ j : Int, 0 ≤ j → j < l9 → 33 ≤ C9 j ∧ C9 j ≤ 126) : lwI E F K n bd S hs E2 F2 K2 n2 bd2 T old sz pn pb PF PK PE V l9 C9 :=
  ⟨h.1, h.2.1, h.2.2.1, h.2.2.2.1, h.2.2.2.2.1, hl, hC⟩
theorem lw_C {len v : Int} {C : Int → Int} (hC : ∀ j : Int, 0 ≤ j → j < len → 33 ≤ C j ∧ C j ≤ 126) (hv : 33 ≤ v ∧ v ≤ 126) : ∀ j : Int, 0 ≤ j → j < len + 1 → 33 ≤ uZ C len v j ∧ uZ C len v j ≤ 126 := by
  intro j j0 j1
  unfold uZ
  split
  · exact hv
  · exact hC j j0 (by omega)
theorem lw_kp {E F K S V pn pb : Int → Int} {PF PK PE : Int → Int → Int} {n bd old sz : Int} {hs : Bool} {E2 F2 K2 : Int → Int} {n2 bd2 : Int} {T : Int → Int} {len : Int} {C : Int → Int} (h : lwI E F K n bd S hs E2 F2 K2 n2 bd2 T old sz pn pb PF PK PE V len C) : lwI E F K n bd S true E F K n bd S old sz pn pb PF PK PE V len C :=
  ⟨h.1, fun _ => h.1, h.2.2⟩
theorem lw_un {E F K S V pn pb : Int → Int} {PF PK PE : Int → Int → Int} {n bd old sz : Int} {hs : Bool} {E2 F2 K2 : Int → Int} {n2 bd2 : Int} {T : Int → Int} {len : Int} {C : Int → Int} (h : lwI E F K n bd S hs E2 F2 K2 n2 bd2 T old sz pn pb PF PK PE V len C) (h0 : 0 < sz) : lwI (PE ((old + (sz - 1)) % 6)) (PF ((old + (sz - 1)) % 6)) (PK ((old + (sz - 1)) % 6)) (pn ((old + (sz - 1)) % 6)) (pb ((old + (sz - 1)) % 6)) (fun j : Int => V (48 * (sz - 1) + j)) hs E2 F2 K2 n2 bd2 T old (sz - 1) pn pb PF PK PE V len C :=
  ⟨st_undo h0 h.2.2.2.2.1, h.2.1, h.2.2.1, ⟨by have := h.2.2.2.1; omega, by have := h.2.2.2.1; omega⟩, rg_undo h.2.2.2.2.1, h.2.2.2.2.2⟩
/-! the law's room -/
def lwR : Room := { frames := 12, cells := 601024, slots := 7293034, locals := 478 }
