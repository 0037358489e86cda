/-! ===== calls of methods that throw, with handlers; calls of methods with handlers; long arrays ===== -/
section ZX
variable {G : ZG} {X : ZT} {nL k n : Nat} {cc : ByteArray} {own : String} {Ts : List Cond} {R0 : Room} {WS : va_W} {pc : Nat} {loc : List (Nat × Value)} {st : List Value}
variable {idx maxL mc ms : Nat} {y : MethodName} {bytes : ByteArray} {ret : Option FieldType} {ws ws' : List Cond} {rm : Room} {wc wr : va_W} {S : Type} {w1 : S → va_W} {b : Nat} {As rest : List Value}
theorem z_callVX_i (hX : ZOk G X nL cc own Ts R0) {hh : List (Nat × Nat × Nat × Nat)} (hTb : zTb X hh) {post : Int32 → S → Prop} {thr : String → Prop} (hM : zMetX y ws rm G (.ref b :: As) wc thr post w1 mc ms) (hw : ws = Cond.code y bytes maxL ret :: ws') (hrc : rm.cells = mc) (hrs : rm.slots = ms) {C : String} (hGd : GoodIn Ts (wsV own idx C y ws)) (hd : y.cls = C ∧ y.cls ≠ "java/lang/invoke/MethodHandle" ∧ y.cls ≠ "java/lang/invoke/VarHandle" ∧ (parseMethodDescriptor y.desc).map (fun d => d.parameters.length) = some As.length) {T : u_T} {N ci : Nat} {fs : List Value} (q0 : Nat) (hrecv : wc[q0]? = some (b, .inr (ci, fs))) (hcl : vwCl[ci]? = some (C, T, N)) (hR : rm.frames + 1 ≤ R0.frames ∧ 8 + (maxL + 11) + rm.locals ≤ R0.locals)
    (isC isR : List Nat) (hC : isC.map (fun i => WS[i]?) = wc.map some) (hRr : isR.map (fun i => WS[i]?) = wr.map some) (hnC : va_nd isC = true) (hnR : va_nd isR = true) (hdis : ∀ i ∈ isR, i ∉ isC) (hst : As.reverse ++ .ref b :: rest = st) (hrest : (rest.map fun v => v.category).sum ≤ 8) (hcells : k + mc ≤ R0.cells ∧ n + ms ≤ R0.slots) (d : decode cc pc = .ok (.invokevirtual idx, 3))
    (hthr : ∀ E, thr E → E ∈ zEs) (hlk : ∀ z ∈ hh, z.2.2.2 ≠ 0 ∧ Cond.classLink own z.2.2.2 (zCt z.2.2.2) ∈ Ts)
    (kx : ∀ E, thr E → ∃ t, zSel hh pc E = some t ∧ ∀ q9 : Nat, Z G X nL (k + mc) (n + ms) (wr ++ wc) t loc [.ref q9])
    (kk : ∀ (r : Int32) (u : S), post r u → Z G X nL (k + mc) (n + ms) (wr ++ w1 u) (pc + 3) loc (.int r :: rest)) : Z G X nL k n WS pc loc st := by
  obtain ⟨p, l, e, R, s, m, args, below, meth, c, Q, A⟩ := X
  have hX0 := hX
  obtain ⟨hx, hb, hml, hown, hts, hK, hA, hG, hR', htr, hlo⟩ := hX
  obtain ⟨htb, hnx⟩ := hTb
  intro H locs ls hP hD hS hl
  subst hst
  subst hR'
  have hPc : va_P G.1 vwCl wc H := hP.sub isC (z_fm _ _ _ hC)
  have hDc := hD.sub (ws' := wc) isC hnC hC
  have hFc := va_free (wc := wc) hD hS hA isC hC
  have hpc : ∀ U : State, U.heap = H → s.WarmedH U.vm → va_Pc (.ref b :: As) (zBX G wc H.size) (.ref b :: As).toArray U := fun U hU hW => ⟨rfl, ⟨by rw [hU], by rw [hU]; exact hPc, va_K.moved hW.alike hK, hDc.weaken (fun _ _ _ _ => trivial), by rw [hU]; exact zAmb.go hW (fun a h1 h2 => hS.2.1 a h1 h2) hFc hG⟩, zThr_warm hW hnx.1⟩
  refine vx_calli (vx_runV (As := As) (rest := rest) (bytes := bytes) (maxL := maxL) (ret := ret) ⟨hx, hb, hml, hown, hts⟩ (hM l H.size htr) (cwV As.length hts hGd hw hrc hrs hd hR) ⟨zBX_blind, va_recv hK hPc (ci := ci) (q0 := q0) hcl hrecv, hpc⟩ rfl rfl hl.1 rfl (lv_room hrest) d hcells) hS (fun q _ h => hFc q h) hFc (fun q _ h => hFc q h) (fun E ce q9 u t H1 locs1 ht hvm hw1 hB hz1 hk1 hS1 hcell hv9 hcl9 => ?_) (fun r u t H1 locs1 ht hvm hw1 hB hz1 hk1 hS1 => ?_)
  · obtain ⟨hth, hP1, hK1, hD1⟩ := hB
    rw [ht] at hP1
    obtain ⟨hP2, hD2⟩ := va_join (wr := wr) (w1 := wc) hP hD isC isR hC hRr hnR hdis hk1 hFc hP1 hD1
    obtain ⟨t9, hs9, kz⟩ := kx E hth
    exact z_catch hX0 rfl hnx (hthr E hth) hcell hv9 hcl9 (kz q9 H1 locs1 ls hP2 hD2 hS1 hl) hh [] htb (fun z hz => by cases hz) hlk hs9
  · obtain ⟨hP1, hK1, hD1⟩ := hB
    rw [ht] at hP1
    obtain ⟨hP2, hD2⟩ := va_join (wr := wr) (w1 := w1 u) hP hD isC isR hC hRr hnR hdis hk1 hFc hP1 hD1
    exact kk r u hw1 H1 locs1 ls hP2 hD2 hS1 hl
def zNs (X : ZT) : Prop := match X with
  | (_, _, _, _, s, _, _, _, _, _, _, _) => zNX s
theorem z_callSW_i (hX : ZOk G X nL cc own Ts R0) (hN : zNs X) {hh : List (Nat × Nat × Nat × Nat)} {post : Int32 → S → Prop} (hM : zMetY y ws rm G As wc post w1 mc ms) (hw : ws = Cond.codeWith y bytes maxL ret hh :: ws') (hrc : rm.cells = mc) (hrs : rm.slots = ms) (hGd : GoodIn Ts (va_wsS own idx y ws)) (hd : y.cls ≠ "java/lang/invoke/MethodHandle" ∧ y.cls ≠ "java/lang/invoke/VarHandle" ∧ (parseMethodDescriptor y.desc).map (fun d => d.parameters.length) = some As.length) (hR : rm.frames + 1 ≤ R0.frames ∧ 8 + (maxL + 11) + rm.locals ≤ R0.locals)
    (isC isR : List Nat) (hC : isC.map (fun i => WS[i]?) = wc.map some) (hRr : isR.map (fun i => WS[i]?) = wr.map some) (hnC : va_nd isC = true) (hnR : va_nd isR = true) (hdis : ∀ i ∈ isR, i ∉ isC) (hst : As.reverse ++ rest = st) (hrest : (rest.map fun v => v.category).sum ≤ 8) (hcells : k + mc ≤ R0.cells ∧ n + ms ≤ R0.slots) (d : decode cc pc = .ok (.invokestatic idx, 3))
    (kk : ∀ (r : Int32) (u : S), post r u → Z G X nL (k + mc) (n + ms) (wr ++ w1 u) (pc + 3) loc (.int r :: rest)) : Z G X nL k n WS pc loc st := by
  obtain ⟨p, l, e, R, s, m, args, below, meth, c, Q, A⟩ := X
  obtain ⟨hx, hb, hml, hown, hts, hK, hA, hG, hR', htr, hlo⟩ := hX
  intro H locs ls hP hD hS hl
  subst hst
  subst hR'
  have hPc : va_P G.1 vwCl wc H := hP.sub isC (z_fm _ _ _ hC)
  have hDc := hD.sub (ws' := wc) isC hnC hC
  have hFc := va_free (wc := wc) hD hS hA isC hC
  have hpc : ∀ U : State, U.heap = H → s.WarmedH U.vm → va_Pc As (zBY G wc H.size) As.toArray U := fun U hU hW => ⟨rfl, ⟨by rw [hU], by rw [hU]; exact hPc, va_K.moved hW.alike hK, hDc.weaken (fun _ _ _ _ => trivial), by rw [hU]; exact zAmb.go hW (fun a h1 h2 => hS.2.1 a h1 h2) hFc hG⟩, zNX.warm hW hN⟩
  refine va_calli (vx_runSW (As := As) (rest := rest) (bytes := bytes) (maxL := maxL) (ret := ret) (hh := hh) ⟨hx, hb, hml, hown, hts⟩ (hM l H.size htr) (vx_cwSW As.length hts hGd hw hrc hrs hd hR) ⟨zBY_blind, hpc⟩ rfl rfl hl.1 rfl (lv_room hrest) d hcells) hS (fun q _ h => hFc q h) hFc (fun r u t H1 locs1 ht hvm hw1 hB hz1 hk1 hS1 => ?_)
  obtain ⟨hP1, hK1, hD1⟩ := hB
  rw [ht] at hP1
  obtain ⟨hP2, hD2⟩ := va_join (wr := wr) (w1 := w1 u) hP hD isC isR hC hRr hnR hdis hk1 hFc hP1 hD1
  exact kk r u hw1 H1 locs1 ls hP2 hD2 hS1 hl
theorem z_last (hX : ZOk G X nL cc own Ts R0) {a N : Nat} {f : Nat → Int64} {j : Int} {v : Int64} {WS' : va_W} (q0 : Nat) (he : WS[q0]? = some (a, .inl (G.2.2.2.1, N, .inr (.inl f)))) (hN : N < 2147483648) (hj : 0 ≤ j ∧ j < (N : Int)) (hw : WS.set q0 (a, .inl (G.2.2.2.1, N, .inr (.inl (vp_updL f j.toNat v)))) = WS') (d : decode cc pc = .ok (.lastore, 1)) (kk : Z G X nL k n WS' (pc + 1) loc st) : Z G X nL k n WS pc loc (.long v :: .int (iI j) :: .ref a :: st) := by
  obtain ⟨p, l, e, R, s, m, args, below, meth, c, Q, A⟩ := X
  obtain ⟨hx, hb, hml, hown, hts, hK, hA, hG, hR, htr, hlo⟩ := hX
  intro H locs ls hP hD hS hl
  subst hw
  have e9 : (iI j).toNatClampNeg = j.toNat := iI_cl (by omega)
  refine va_last (D := G.1) hx hb hK hP hD hS q0 2 (cA := G.2.2.2.1) (n := N) (f := f) he rfl (iI_in hj (by omega)) d (fun H1 locs1 hP1 hD1 hS1 => ?_)
  rw [e9] at hP1 hD1
  exact kk H1 locs1 ls hP1 hD1 hS1 hl
theorem z_lald (hX : ZOk G X nL cc own Ts R0) {a N : Nat} {f : Nat → Int64} {j : Int} (q0 : Nat) (he : WS[q0]? = some (a, .inl (G.2.2.2.1, N, .inr (.inl f)))) (hN : N < 2147483648) (hj : 0 ≤ j ∧ j < (N : Int)) (d : decode cc pc = .ok (.laload, 1)) (kk : Z G X nL k n WS (pc + 1) loc (.long (f j.toNat) :: st)) : Z G X nL k n WS pc loc (.int (iI j) :: .ref a :: st) := by
  obtain ⟨p, l, e, R, s, m, args, below, meth, c, Q, A⟩ := X
  obtain ⟨hx, hb, hml, hown, hts, hK, hA, hG, hR, htr, hlo⟩ := hX
  intro H locs ls hP hD hS hl
  refine va_lald (D := G.1) hx hb hK hP q0 2 (cA := G.2.2.2.1) (n := N) (f := f) he rfl (iI_in hj (by omega)) d ?_
  rw [iI_cl (by omega)]
  exact kk H locs ls hP hD hS hl
end ZX
