/-! ===== p28: bits, the constant of the pool, the script ===== -/
def anI (a b : Int) : Int := (iI a &&& iI b).toInt
theorem anI_i (a b : Int) : iI (anI a b) = iI a &&& iI b := Int32.ofInt_toInt _
def orI (a b : Int) : Int := (iI a ||| iI b).toInt
theorem orI_i (a b : Int) : iI (orI a b) = iI a ||| iI b := Int32.ofInt_toInt _
def srI (a b : Int) : Int := (iI a >>> (iI b &&& 31)).toInt
theorem srI_i (a b : Int) : iI (srI a b) = iI a >>> (iI b &&& 31) := Int32.ofInt_toInt _
theorem tI_r (x : Int32) : -2147483648 ≤ x.toInt ∧ x.toInt < 2147483648 := by
  have h1 := Int32.le_toInt x
  have h2 := Int32.toInt_lt x
  omega
theorem anI_w (a b : Int) : -2147483648 ≤ anI a b ∧ anI a b < 2147483648 := tI_r _
theorem orI_w (a b : Int) : -2147483648 ≤ orI a b ∧ orI a b < 2147483648 := tI_r _
theorem srI_w (a b : Int) : -2147483648 ≤ srI a b ∧ srI a b < 2147483648 := tI_r _
theorem and_nI (a b : Nat) : Int32.ofNat a &&& Int32.ofNat b = Int32.ofNat (a &&& b) := by
  apply Int32.toBitVec_inj.1
  show BitVec.ofNat 32 a &&& BitVec.ofNat 32 b = BitVec.ofNat 32 (a &&& b)
  apply BitVec.eq_of_getLsbD_eq
  intro i hi
  simp [hi]
theorem anI_r {a b : Int} (h : 0 ≤ b ∧ b < 2147483648) : 0 ≤ anI a b ∧ anI a b ≤ b := by
  obtain ⟨m, e⟩ : ∃ m : Nat, iI a = Int32.ofNat m := ⟨(iI a).toBitVec.toNat, Int32.toBitVec_inj.mp (by show _ = BitVec.ofNat 32 _; simp)⟩
  have e2 : iI b = Int32.ofNat b.toNat := by rw [iI_nat, Int.toNat_of_nonneg h.1]
  obtain ⟨z, hz, l⟩ : ∃ z : Nat, Int32.ofNat m &&& Int32.ofNat b.toNat = Int32.ofNat z ∧ z ≤ b.toNat := ⟨m &&& b.toNat, and_nI _ _, Nat.and_le_right⟩
  unfold anI
  rw [e, e2, hz, iI_nat, iI_toInt (by omega)]
  omega
section ZBits
variable {G : ZG} {X : ZT} {nL k n : Nat} {cc : ByteArray} {own : String} {Ts : List Cond} {R0 : Room} {WS : va_W} {pc : Nat} {loc : List (Nat × Value)} {st : List Value}
theorem z_iand (hX : ZOk G X nL cc own Ts R0) {a b : Int} (d : decode cc pc = .ok (.iand, 1)) (kk : Z G X nL k n WS (pc + 1) loc (.int (iI (anI a b)) :: st)) : Z G X nL k n WS pc loc (.int (iI b) :: .int (iI a) :: st) := by
  obtain ⟨p, l, e, R, s, m, args, below, meth, c, Q, A⟩ := X
  obtain ⟨hx, hb, hml, hown, hts, hK, hA, hG, hR, htr, hlo⟩ := hX
  intro H locs ls hP hD hS hl
  exact lv_iand hx hb d (by rw [← anI_i]; exact kk H locs ls hP hD hS hl)
theorem z_ior (hX : ZOk G X nL cc own Ts R0) {a b : Int} (d : decode cc pc = .ok (.ior, 1)) (kk : Z G X nL k n WS (pc + 1) loc (.int (iI (orI a b)) :: st)) : Z G X nL k n WS pc loc (.int (iI b) :: .int (iI a) :: st) := by
  obtain ⟨p, l, e, R, s, m, args, below, meth, c, Q, A⟩ := X
  obtain ⟨hx, hb, hml, hown, hts, hK, hA, hG, hR, htr, hlo⟩ := hX
  intro H locs ls hP hD hS hl
  exact lv_ior hx hb d (by rw [← orI_i]; exact kk H locs ls hP hD hS hl)
theorem z_ishr (hX : ZOk G X nL cc own Ts R0) {a b : Int} (d : decode cc pc = .ok (.ishr, 1)) (kk : Z G X nL k n WS (pc + 1) loc (.int (iI (srI a b)) :: st)) : Z G X nL k n WS pc loc (.int (iI b) :: .int (iI a) :: st) := by
  obtain ⟨p, l, e, R, s, m, args, below, meth, c, Q, A⟩ := X
  obtain ⟨hx, hb, hml, hown, hts, hK, hA, hG, hR, htr, hlo⟩ := hX
  intro H locs ls hP hD hS hl
  exact lv_ishr hx hb d (by rw [← srI_i]; exact kk H locs ls hP hD hS hl)
theorem z_ldc (hX : ZOk G X nL cc own Ts R0) {i : Nat} {z : Int} {v : Int32} (hv : v = iI z) (hc : Cond.constant own i v ∈ Ts) (d : decode cc pc = .ok (.ldc i, 2)) (kk : Z G X nL k n WS (pc + 2) loc (.int (iI z) :: st)) : Z G X nL k n WS pc loc st := by
  obtain ⟨p, l, e, R, s, m, args, below, meth, c, Q, A⟩ := X
  obtain ⟨hx, hb, hml, hown, hts, hK, hA, hG, hR, htr, hlo⟩ := hX
  intro H locs ls hP hD hS hl
  subst hv
  exact lv_ldc hx hb hown (hts _ hc) d (kk H locs ls hP hD hS hl)
theorem z_lcmpE (hX : ZOk G X nL cc own Ts R0) {a b : Int64} (h : a = b) (d : decode cc pc = .ok (.lcmp, 1)) (kk : Z G X nL k n WS (pc + 1) loc (.int (iI 0) :: st)) : Z G X nL k n WS pc loc (.long b :: .long a :: st) := by
  obtain ⟨p, l, e, R, s, m, args, below, meth, c, Q, A⟩ := X
  obtain ⟨hx, hb, hml, hown, hts, hK, hA, hG, hR, htr, hlo⟩ := hX
  intro H locs ls hP hD hS hl
  subst h
  refine W.lcmp hx hb d ?_
  have e9 : lg_cmp a a = iI 0 := by
    unfold lg_cmp
    simp only [iI]
    first | rfl | (split <;> first | rfl | (split <;> first | rfl | (exfalso; simp_all))) | simp
  rw [e9]
  exact kk H locs ls hP hD hS hl
theorem z_dcmpL (hX : ZOk G X nL cc own Ts R0) {x y : UInt64} {z : Int} (hz : Op.cmpValue (FP.dcmp x y) .l = iI z) (d : decode cc pc = .ok (.dcmp .l, 1)) (kk : Z G X nL k n WS (pc + 1) loc (.int (iI z) :: st)) : Z G X nL k n WS pc loc (.double y :: .double x :: st) := z_dcmp hX d (by rw [hz]; exact kk)
end ZBits
/-! the script of the law -/
def sX (xs : Nat → Int32) (j : Int) : Int := (xs j.toNat).toInt
theorem sX_i (xs : Nat → Int32) (j : Int) : iI (sX xs j) = xs j.toNat := Int32.ofInt_toInt _
theorem sX_r (xs : Nat → Int32) (j : Int) : -2147483648 ≤ sX xs j ∧ sX xs j < 2147483648 := tI_r _
def zScr (X : ZT) (b L : Nat) (xs : Nat → Int32) : Prop := match X with
  | (_, _, _, _, s, _, _, _, _, _, _, A) => va_X b L xs s s.heap ∧ b < s.heap.size ∧ ¬ A b ∧ L ≤ 2048
section ZLaw
variable {G : ZG} {X : ZT} {nL k n : Nat} {cc : ByteArray} {own : String} {Ts : List Cond} {R0 : Room} {WS : va_W} {pc : Nat} {loc : List (Nat × Value)} {st : List Value}
theorem z_sld (hX : ZOk G X nL cc own Ts R0) {b L : Nat} {xs : Nat → Int32} (hS9 : zScr X b L xs) {j : Int} (hj : 0 ≤ j ∧ j < (L : Int)) (d : decode cc pc = .ok (.iaload, 1)) (kk : Z G X nL k n WS (pc + 1) loc (.int (iI (sX xs j)) :: st)) : Z G X nL k n WS pc loc (.int (iI j) :: .ref b :: st) := by
  obtain ⟨p, l, e, R, s, m, args, below, meth, c, Q, A⟩ := X
  obtain ⟨hx, hb, hml, hown, hts, hK, hA, hG, hR, htr, hlo⟩ := hX
  obtain ⟨h1, h2, h3, h4⟩ := hS9
  intro H locs ls hP hD hS hl
  refine va_sld hx hb h1 h2 h3 hS (iI_in hj (by omega)) d ?_
  rw [iI_cl (by omega), ← sX_i xs j]
  exact kk H locs ls hP hD hS hl
theorem z_slen (hX : ZOk G X nL cc own Ts R0) {b L : Nat} {xs : Nat → Int32} (hS9 : zScr X b L xs) (d : decode cc pc = .ok (.arraylength, 1)) (kk : Z G X nL k n WS (pc + 1) loc (.int (iI (L : Int)) :: st)) : Z G X nL k n WS pc loc (.ref b :: st) := by
  obtain ⟨p, l, e, R, s, m, args, below, meth, c, Q, A⟩ := X
  obtain ⟨hx, hb, hml, hown, hts, hK, hA, hG, hR, htr, hlo⟩ := hX
  obtain ⟨h1, h2, h3, h4⟩ := hS9
  intro H locs ls hP hD hS hl
  refine va_slen hx hb h1 h2 h3 hS d ?_
  rw [show Int32.ofNat L = iI (L : Int) from (iI_nat L).symm]
  exact kk H locs ls hP hD hS hl
end ZLaw
/-- a method that reads the script -/
def zBS (G : ZG) (b L : Nat) (xs : Nat → Int32) (ws : va_W) (sz : Nat) : State → Prop := fun U => zB G ws sz U ∧ va_X b L xs U U.heap ∧ b < sz ∧ L ≤ 2048
theorem zBS_blind {G : ZG} {b L : Nat} {xs : Nat → Int32} {As : List Value} {ws : va_W} {sz : Nat} : FrameBlind (va_Pc As (zBS G b L xs ws sz)) := fun a U g mk q => by
  obtain ⟨q0, q1, q2, q3⟩ := q
  have h := zB_blind (G := G) (As := As) (ws := ws) (sz := sz) a U g mk ⟨q0, q1⟩
  exact ⟨h.1, h.2, va_X.moved (u := U) (U := U.calling g mk a) (Vm.Alike.refl U.vm) q2, q3⟩
def zMetiS (y : MethodName) (ws : List Cond) (rm : Room) (G : ZG) (b L : Nat) (xs : Nat → Int32) (As : List Value) {S : Type} (post : Int32 → S → Prop) (w1 : S → va_W) (mc ms : Nat) : Prop :=
  ∀ (l : Launch) (sz : Nat), l.stackTraces = false → Met l y ws rm (va_Pc As (zBS G b L xs [] sz)) (va_Qi post (fun u => zE G (w1 u) (va_A [] sz)) (va_A [] sz)) mc ms (va_A [] sz)
theorem z_metiS {y : MethodName} {ws ws' : List Cond} {rm : Room} {G : ZG} {b L : Nat} {xs : Nat → Int32} {As : List Value} {S : Type} {w1 : S → va_W} {mc ms nL : Nat} {cc : ByteArray} {post : Int32 → S → Prop} {rt : FieldType} (hy : plainName y.cls = true) (hw : ws = Cond.code y cc nL (some rt) :: ws') (hlen : (lg_sl As).length ≤ nL)
    (body : ∀ X : ZT, ZOk G X nL cc y.cls ws rm → zScr X b L xs → (∀ (pc : Nat) (loc : List (Nat × Value)) (r : Int32) (u : S) (WS : va_W), decode cc pc = .ok (.ireturn, 1) → narrow rt (.int r) = .int r → post r u → w1 u = WS → Z G X nL mc ms WS pc loc [.int r]) → Z G X nL 0 0 [] 0 (lv_args 0 As) []) : zMetiS y ws rm G b L xs As post w1 mc ms := by
  intro l sz htr
  refine Met.ofW (cc := cc) (maxL := nL) (ret := some rt) hy hw ?_
  intro p e s m args below meth c s₁ B hml hv
  obtain ⟨rfl, ⟨hsz, hP, hK, hD0, hamb⟩, hxx, hbs, hL⟩ := hv
  subst hsz
  have hD := hD0.self (sz := s.heap.size)
  have hb := body (p, l, e, rm, s, m, As.toArray, below, meth, c, MQ below (va_Qi post (fun u => zE G (w1 u) (va_A [] s.heap.size)) (va_A [] s.heap.size)) As.toArray s mc ms (va_A [] s.heap.size), va_A [] s.heap.size)
    ⟨B.exec, B.bytes, hml, findClass_of_methodNamed B.named, atoms_spec (ws := ws) B.pre, hK, fun q h => Or.inr h, hamb, rfl, htr, B.notSynchronized⟩ ⟨hxx, hbs, fun h => by
      rcases h with ⟨k, e, h⟩ | h
      · simp at h
      · exact absurd hbs (Nat.not_lt.mpr h), hL⟩ ?_
  · rw [lg_entry_eq]
    exact hb s.heap [] _ hP hD va_S.rf (lv_entry As hlen)
  · intro pc loc r u WS d hn hp hWS H locs ls hP hD hS hl
    subst hWS
    exact W.zret B.exec B.bytes B.returns hn (fun t ht hW => ⟨⟨r, u, rfl, hp, by rw [ht]; exact hP, va_K.moved hW.alike hK, hD⟩, hS.F ht⟩) hS.2.2 d B.notSynchronized
section ZCallS
variable {G : ZG} {X : ZT} {nL k n : Nat} {cc : ByteArray} {own : String} {Ts : List Cond} {R0 : Room} {WS : va_W} {pc : Nat} {loc : List (Nat × Value)} {st : List Value}
variable {idx maxL mc ms : Nat} {y : MethodName} {bytes : ByteArray} {ret : Option FieldType} {ws ws' : List Cond} {rm : Room} {wc wr : va_W} {S : Type} {w1 : S → va_W} {b : Nat} {As rest : List Value}
theorem z_callS_iS (hX : ZOk G X nL cc own Ts R0) {b L : Nat} {xs : Nat → Int32} (hS9 : zScr X b L xs) {post : Int32 → S → Prop} (hM : zMetiS y ws rm G b L xs As post w1 mc ms) (hw : ws = Cond.code y bytes maxL ret :: ws') (hrc : rm.cells = mc) (hrs : rm.slots = ms) (hGd : GoodIn Ts (va_wsS own idx y ws)) (hd : y.cls ≠ "java/lang/invoke/MethodHandle" ∧ y.cls ≠ "java/lang/invoke/VarHandle" ∧ (parseMethodDescriptor y.desc).map (fun d => d.parameters.length) = some As.length) (hR : rm.frames + 1 ≤ R0.frames ∧ 8 + (maxL + 11) + rm.locals ≤ R0.locals)
    (isC isR : List Nat) (hwc : wc = []) (hC : isC.map (fun i => WS[i]?) = wc.map some) (hRr : isR.map (fun i => WS[i]?) = wr.map some) (hnC : va_nd isC = true) (hnR : va_nd isR = true) (hdis : ∀ i ∈ isR, i ∉ isC) (hst : As.reverse ++ rest = st) (hrest : (rest.map fun v => v.category).sum ≤ 8) (hcells : k + mc ≤ R0.cells ∧ n + ms ≤ R0.slots) (d : decode cc pc = .ok (.invokestatic idx, 3))
    (kk : ∀ (r : Int32) (u : S), post r u → Z G X nL (k + mc) (n + ms) (wr ++ w1 u) (pc + 3) loc (.int r :: rest)) : Z G X nL k n WS pc loc st := by
  obtain ⟨p, l, e, R, s, m, args, below, meth, c, Q, A⟩ := X
  obtain ⟨hx, hb, hml, hown, hts, hK, hA, hG, hR', htr, hlo⟩ := hX
  obtain ⟨s1, s2, s3, s4⟩ := hS9
  intro H locs ls hP hD hS hl
  subst hst
  subst hR'
  subst hwc
  have hPc : va_P G.1 vwCl [] H := hP.sub isC (z_fm _ _ _ hC)
  have hDc := hD.sub (ws' := []) isC hnC hC
  have hFc := va_free (wc := []) hD hS hA isC hC
  have hpc : ∀ U : State, U.heap = H → s.WarmedH U.vm → va_Pc (As) (zBS G b L xs [] H.size) (As).toArray U := fun U hU hW => ⟨rfl, ⟨by rw [hU], by rw [hU]; exact hPc, va_K.moved hW.alike hK, hDc.weaken (fun _ _ _ _ => trivial), by rw [hU]; exact zAmb.go hW (fun a h1 h2 => hS.2.1 a h1 h2) hFc hG⟩, va_X.moved hW.alike (va_X.kept s1 (by rw [hU]; exact hS.2.1 b s2 s3)), Nat.lt_of_lt_of_le s2 hS.1, s4⟩
  refine va_calli (va_runS (As := As) (rest := rest) (bytes := bytes) (maxL := maxL) (ret := ret) ⟨hx, hb, hml, hown, hts⟩ (hM l H.size htr) (va_cwS As.length hts hGd hw hrc hrs hd hR) ⟨zBS_blind, hpc⟩ rfl rfl hl.1 rfl (lv_room hrest) d hcells) hS (fun q _ h => hFc q h) hFc (fun r u t H1 locs1 ht hvm hw1 hB hz1 hk1 hS1 => ?_)
  obtain ⟨hP1, hK1, hD1⟩ := hB
  rw [ht] at hP1
  obtain ⟨hP2, hD2⟩ := va_join (wr := wr) (w1 := w1 u) hP hD isC isR hC hRr hnR hdis hk1 hFc hP1 hD1
  exact kk r u hw1 H1 locs1 ls hP2 hD2 hS1 hl
end ZCallS
