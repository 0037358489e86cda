/-! ===== rows and pure: the model's digest ===== -/
theorem z_d2lb {G : ZG} {X : ZT} {nL k n : Nat} {cc : ByteArray} {own : String} {Ts : List Cond} {R0 : Room} {WS : va_W} {pc : Nat} {loc : List (Nat × Value)} {st : List Value} (hX : ZOk G X nL cc own Ts R0) {i : Nat} {b : UInt64} (h1 : Cond.methodLink own i ⟨"java/lang/Double", "doubleToRawLongBits", "(D)J"⟩ ∈ Ts) (h2 : Cond.native ⟨"java/lang/Double", "doubleToRawLongBits", "(D)J"⟩ ∈ Ts) (h3 : Cond.static ⟨"java/lang/Double", "doubleToRawLongBits", "(D)J"⟩ ∈ Ts) (h4 : Cond.initialized "java/lang/Double" ∈ Ts) (hr : 1 ≤ R0.frames ∧ (st.map fun v => v.category).sum + 15 ≤ R0.locals) (d : decode cc pc = .ok (.invokestatic i, 3)) (kk : Z G X nL k n WS (pc + 3) loc (.long b.toInt64 :: st)) : Z G X nL k n WS pc loc (.double b :: st) := by
  obtain ⟨p, l, e, R, s, m, args, below, meth, c, Q, A⟩ := X
  obtain ⟨hx, hb, hml, hown, hts, hK, hA, hG, hR, htr, hlo⟩ := hX
  intro H locs ls hP hD hS hl
  subst hR
  exact vn_d2l hx hb (by rw [hml]; first | exact hl.1 | exact hl.1.symm) hown (hts _ h1) (hts _ h2) (hts _ h3) (hts _ h4) hr.1 hr.2 d (kk H locs ls hP hD hS hl)
theorem z_dcmpL {G : ZG} {X : ZT} {nL k n : Nat} {cc : ByteArray} {own : String} {Ts : List Cond} {R0 : Room} {WS : va_W} {pc : Nat} {loc : List (Nat × Value)} {st : List Value} (hX : ZOk G X nL cc own Ts R0) {x y : UInt64} {z : Int} (hz : Op.cmpValue (FP.dcmp x y) .l = iI z) (d : decode cc pc = .ok (.dcmp .l, 1)) (kk : Z G X nL k n WS (pc + 1) loc (.int (iI z) :: st)) : Z G X nL k n WS pc loc (.double y :: .double x :: st) := z_dcmp hX d (by rw [hz]; exact kk)
theorem evL_all : ∀ p : Fin 21, ∀ f : Fin 21, f.1 ≤ p.1 → Op.cmpValue (FP.dcmp (evD p.1 f.1) (evD p.1 f.1)) .l = iI 0 := by decide +kernel
theorem ev_l {p f : Int} (hp : 0 ≤ p ∧ p ≤ 20) (hf : 0 ≤ f ∧ f ≤ p) : Op.cmpValue (FP.dcmp (evD p f) (evD p f)) .l = iI 0 := by
  have h := evL_all ⟨p.toNat, by omega⟩ ⟨f.toNat, by omega⟩ (by show f.toNat ≤ p.toNat; omega)
  have e1 : ((p.toNat : Nat) : Int) = p := by omega
  have e2 : ((f.toNat : Nat) : Int) = f := by omega
  dsimp only at h
  rw [e1, e2] at h
  exact h
theorem rkM_hit {ff : Bool} {E F K : Int → Int} {n r k : Int} (hk : 0 ≤ k ∧ k < n) (hp : prS F n k = true) (hc : cnS (prS F n) (ahB ff (arA E F K n) (shA E F K n)) n k = r) : k = rkV ff E F K n r := by
  have e := fiS_only (b := rkQ ff E F K n r) hk (rkQ_t.mpr ⟨hp, hc⟩) (fun j j0 j1 q => by
    have w := rkQ_t.mp q
    exact rk_uni ⟨j0, j1⟩ hk w.1 hp (w.2.trans hc.symm))
  unfold rkV
  rw [e, if_pos hk.2]
theorem rkM_no {ff : Bool} {E F K : Int → Int} {n r : Int} (hn : 0 ≤ n) (h : ∀ j : Int, 0 ≤ j → j < n → ¬ rkQ ff E F K n r j = true) : -1 = rkV ff E F K n r := by
  unfold rkV
  rw [if_neg (fun w => by
    have rg := fiS_r (rkQ ff E F K n r) (len := n) _ 0 rfl hn
    exact h _ rg.1 w (fiS_hit _ _ 0 rfl hn w))]
theorem cnM {ff : Bool} {E F K A : Int → Int} {n e k : Int} (hE : okE E) (hK : okK K n) (hA : ∀ j : Int, 0 ≤ j → j < n → A j = arA E F K n j) (he : 0 ≤ e ∧ e < n) (hk : 0 ≤ k ∧ k < n) (hp : prS F n k = true) : cnF (prS F n) (ahB ff (arA E F K n) (shA E F K n)) k e = if e ≠ k ∧ A e ≠ -1 ∧ ahB ff A (fun j => shS (E 3) (A j)) e k = true then 1 else 0 := by
  unfold cnF
  by_cases q : prS F n e = true
  · have e1 : ahB ff A (fun j => shS (E 3) (A j)) e k = ahB ff (arA E F K n) (shA E F K n) e k := by
      rw [← ahS_eq q hp]
      exact ahB_c (hA e he.1 he.2) (hA k hk.1 hk.2) (by show shS (E 3) (A e) = _; rw [hA e he.1 he.2]) (by show shS (E 3) (A k) = _; rw [hA k hk.1 hk.2])
    rw [e1]
    by_cases w : ahB ff (arA E F K n) (shA E F K n) e k = true
    · rw [if_pos ⟨q, w⟩, if_pos ⟨fun z => absurd w (by rw [z]; exact ahB_irr), by rw [hA e he.1 he.2]; exact (arA_ne hE hK he).mpr q, w⟩]
    · rw [if_neg (fun z => w z.2), if_neg (fun z => w z.2.2)]
  · rw [if_neg (fun z => q z.1), if_neg (fun z => q ((arA_ne hE hK he).mp (by rw [← hA e he.1 he.2]; exact z.2.1)))]
theorem bgM_gp {E F : Int → Int} {n p q e : Int} (hp : prS F n p = true) : bgM E F n p q e - e = gpS (E 4) e (lgP E F n p + q) := by
  have a := prS_in hp
  unfold bgM gpS
  rw [if_neg (by omega), if_pos (prS_t.mp hp).1]
theorem kO_r {k : Int} (h : 0 ≤ k ∧ k < 11) : -5 ≤ kO k ∧ kO k ≤ 5 := by
  unfold kO
  split <;> omega
theorem wdS_r {E F K : Int → Int} {n s v : Int} (hE : okE E) (hF : okF F n) (hK : okK K n) (hn : 0 ≤ n ∧ n ≤ 20) (hv : zLs s ≤ v ∧ v ≤ zMs s) : 0 ≤ wdS E F K n s v ∧ wdS E F K n s v ≤ 2000 := by
  have := enA_r (p := n) (okE_u hE hv) hF hK ⟨hn.1, by omega⟩
  unfold wdS
  omega
