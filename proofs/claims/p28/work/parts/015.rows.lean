/-! ===== numbers of contracts: every int is iI of an integer, every int row aI of a function ===== -/
def iI (z : Int) : Int32 := Int32.ofInt z
theorem iI_nat (n : Nat) : Int32.ofNat n = iI (n : Int) := Int32.ofInt_eq_ofNat.symm
theorem iI_toInt {z : Int} (h : -2147483648 ≤ z ∧ z < 2147483648) : (iI z).toInt = z := Int32.toInt_ofInt_of_le (by omega) (by omega)
theorem iI_lt {a b : Int} (ha : -2147483648 ≤ a ∧ a < 2147483648) (hb : -2147483648 ≤ b ∧ b < 2147483648) : iI a < iI b ↔ a < b := by rw [Int32.lt_iff_toInt_lt, iI_toInt ha, iI_toInt hb]
theorem iI_le {a b : Int} (ha : -2147483648 ≤ a ∧ a < 2147483648) (hb : -2147483648 ≤ b ∧ b < 2147483648) : iI a ≤ iI b ↔ a ≤ b := by rw [Int32.le_iff_toInt_le, iI_toInt ha, iI_toInt hb]
theorem iI_eq {a b : Int} (ha : -2147483648 ≤ a ∧ a < 2147483648) (hb : -2147483648 ≤ b ∧ b < 2147483648) : iI a = iI b ↔ a = b := ⟨fun h => by
  have h2 := congrArg Int32.toInt h
  rwa [iI_toInt ha, iI_toInt hb] at h2, fun h => by rw [h]⟩
theorem iI_add (a b : Int) : iI a + iI b = iI (a + b) := (Int32.ofInt_add a b).symm
theorem iI_sub (a b : Int) : iI a - iI b = iI (a - b) := (Int32.ofInt_sub a b).symm
theorem iI_mul (a b : Int) : iI a * iI b = iI (a * b) := (Int32.ofInt_mul a b).symm
theorem iI_neg (a : Int) : -iI a = iI (-a) := (Int32.ofInt_neg a).symm
theorem iI_0 : (0 : Int32) = iI 0 := by decide +kernel
theorem iI_div {a b : Int} (ha : 0 ≤ a ∧ a < 2147483648) (hb : 0 < b ∧ b < 2147483648) : iI a / iI b = iI (a / b) := by
  have h1 : (iI a / iI b).toInt = (iI a).toInt.tdiv (iI b).toInt := Int32.toInt_div_of_ne_left _ _ (fun h => by
    have h2 := congrArg Int32.toInt h
    rw [iI_toInt (by omega)] at h2
    have h3 : Int32.minValue.toInt = -2147483648 := by decide +kernel
    omega)
  rw [iI_toInt (by omega), iI_toInt (by omega), Int.tdiv_eq_ediv_of_nonneg ha.1] at h1
  have h4 : 0 ≤ a / b := Int.ediv_nonneg ha.1 (by omega)
  have h5 : a / b ≤ a := Int.ediv_le_self b ha.1
  exact Int32.toInt_inj.mp (by rw [h1, iI_toInt (by omega)])
theorem iI_rem {a b : Int} (ha : 0 ≤ a ∧ a < 2147483648) (hb : 0 < b ∧ b < 2147483648) : iI a - iI a / iI b * iI b = iI (a % b) := by
  rw [iI_div ha hb, iI_mul, iI_sub]
  congr 1
  have h := Int.mul_ediv_add_emod a b
  rw [Int.mul_comm] at h
  omega
theorem iI_nz {b : Int} (hb : 0 < b ∧ b < 2147483648) : ¬ iI b = 0 := fun h => by
  rw [iI_0] at h
  have := (iI_eq (by omega) (by omega)).mp h
  omega
theorem iI_cl {k : Int} (h : 0 ≤ k ∧ k < 2147483648) : (iI k).toNatClampNeg = k.toNat := Int32.toNatClampNeg_ofInt_of_le (by omega) (by omega)
theorem iI_in {k : Int} {n : Nat} (h : 0 ≤ k ∧ k < n) (hn : (n : Int) < 2147483648) : vp_in (iI k) n := by
  rw [vp_in_iff, iI_toInt (by omega)]
  exact h
theorem iI_bip {n : Int} {z : Int} (h : (Int8.ofInt n).toInt = z) : (Int8.ofInt n).toInt32 = iI z := by
  subst h
  apply Int32.toInt_inj.mp
  have h1 := Int8.le_toInt (Int8.ofInt n)
  have h2 := Int8.toInt_lt (Int8.ofInt n)
  rw [iI_toInt (by omega), Int8.toInt_toInt32]
theorem iI_sip {n : Int} {z : Int} (h : (Int16.ofInt n).toInt = z) : (Int16.ofInt n).toInt32 = iI z := by
  subst h
  apply Int32.toInt_inj.mp
  have h1 := Int16.le_toInt (Int16.ofInt n)
  have h2 := Int16.toInt_lt (Int16.ofInt n)
  rw [iI_toInt (by omega), Int16.toInt_toInt32]
theorem iI_i2l (z : Int) (h : -2147483648 ≤ z ∧ z < 2147483648) : (iI z).toInt64 = Int64.ofInt z := by
  apply Int64.toInt_inj.mp
  rw [Int32.toInt_toInt64, iI_toInt h, Int64.toInt_ofInt_of_le (by omega) (by omega)]
def aI (F : Int → Int) : Nat → Int32 := fun j => iI (F j)
def uZ (F : Int → Int) (k v : Int) : Int → Int := fun j => if j = k then v else F j
theorem uZ_at (F : Int → Int) (k v : Int) : uZ F k v k = v := if_pos rfl
theorem uZ_ne {F : Int → Int} {k v j : Int} (h : j ≠ k) : uZ F k v j = F j := if_neg h
theorem aI_at {F : Int → Int} {k : Int} (h : 0 ≤ k) : aI F k.toNat = iI (F k) := by
  unfold aI
  rw [Int.toNat_of_nonneg h]
theorem aI_upd {F : Int → Int} {k v : Int} (h : 0 ≤ k) : upd (aI F) k.toNat (iI v) = aI (uZ F k v) := by
  funext j
  unfold upd aI uZ
  by_cases hj : j = k.toNat
  · have : (j : Int) = k := by omega
    rw [if_pos hj, if_pos this]
  · have : ¬ (j : Int) = k := by omega
    rw [if_neg hj, if_neg this]
theorem aI_neg {F : Int → Int} {k v : Int} (h : k < 0) : aI (uZ F k v) = aI F := by
  funext j
  unfold aI uZ
  have : ¬ (j : Int) = k := by omega
  rw [if_neg this]
abbrev vwCl : List vw_C := [(RX0, TX0, 17), (RX1, TX1, 3), (RX2, TX2, 3), (RX3, TX3, 5), (RX4, TX4, 2), (RX5, TX5, 10)]
/-! ===== the judgement Z: a walk over a world, whatever heap holds it ===== -/
abbrev ZG : Type := va_G × ClassId × ClassId × ClassId × Nat × Nat × Nat × (Nat → Nat)
abbrev zT (G : ZG) : List (ClassId × FieldType) := [(G.2.1, .int), (G.2.2.1, .object RX3), (G.2.1, .int)]
abbrev zI (G : ZG) (n : Nat) (F : Int → Int) : va_E := .inl (G.2.1, n, .inl (aI F))
def zNest : List Cond := [.fieldLinkNest RX5 107 RX0 "width" "I" RX5, .fieldLinkNest RX5 126 RX3 "boardLength" "I" RX5, .fieldLinkNest RX5 140 RX3 "settings" "[I" RX5, .fieldLinkNest RX5 176 RX1 "size" "I" RX5, .fieldLinkNest RX5 230 RX0 "faults" "I" RX5, .fieldLinkNest RX5 251 RX0 "pairs" "I" RX5, .fieldLinkNest RX5 282 RX0 "begins" "[I" RX5, .fieldLinkNest RX5 285 RX0 "ends" "[I" RX5, .fieldLinkNest RX5 294 RX0 "gaps" "[I" RX5, .fieldLinkNest RX5 297 RX0 "areas" "[I" RX5, .fieldLinkNest RX5 303 RX0 "shares" "[I" RX5, .fieldLinkNest RX5 59 RX3 "items" "I" RX5, .fieldLinkNest RX0 39 RX3 "settings" "[I" RX5, .fieldLinkNest RX0 71 RX3 "items" "I" RX5, .fieldLinkNest RX2 23 RX0 "items" "I" RX5, .fieldLinkNest RX2 48 RX0 "areas" "[I" RX5, .fieldLinkNest RX2 51 RX0 "shares" "[I" RX5, .fieldLinkNest RX3 25 RX5 "FIRST_SETTINGS" "[I" RX5, .methodLinkNest RX5 28 yX4_init RX5, .methodLinkNest RX5 35 yX0_init RX5, .methodLinkNest RX0 118 yX5_widthOf RX5, .methodLinkNest RX0 134 yX5_rightShape RX5, .methodLinkNest RX0 137 yX5_leftShape RX5, .methodLinkNest RX0 42 yX5_copyRow RX5, .methodLinkNest RX0 46 yX5_store RX5, .methodLinkNest RX0 50 yX5_valueAt RX5, .methodLinkNest RX0 92 yX5_brushedIndent RX5, .methodLinkNest RX2 36 yX5_valueAt RX5, .methodLinkNest RX2 44 yX5_store RX5, .methodLinkNest RX3 28 yX5_copyRow RX5, .methodLinkNest RX3 39 yX5_valueAt RX5, .methodLinkNest RX3 43 yX5_store RX5]
def zNestOk (w : Cond) : Bool := match w with
  | .fieldLinkNest .. => true
  | .methodLinkNest .. => true
  | _ => false
theorem zNest_ok : ∀ w ∈ zNest, zNestOk w = true := by decide +kernel
theorem zNest_tab {w : Cond} (h : zNestOk w = true) : w.onTables = true := by
  cases w <;> first | rfl | cases h
theorem zNest_warm {s U : State} (hW : s.WarmedH U.vm) (h : ∀ w ∈ zNest, va_Nw w s) : ∀ w ∈ zNest, va_Nw w U := by
  intro w hw
  have h1 := zNest_ok w hw
  have h2 := h w hw
  cases w <;> first | exact va_Nw.warmF hW h2 | exact va_Nw.warmM hW h2 | cases h1
def zFs : Int → Int := fun j => if j = 0 then 1 else if j = 1 then 20 else if j = 2 then 8 else if j = 3 then 60 else if j = 4 then 1 else 15
def zLs : Int → Int := fun j => if j = 0 then 0 else if j = 1 then 5 else if j = 2 then 1 else if j = 3 then 10 else if j = 4 then 1 else 0
def zMs : Int → Int := fun j => if j = 0 then 4 else if j = 1 then 40 else if j = 2 then 30 else if j = 3 then 300 else if j = 4 then 12 else 100
/-- what stands all the time: nest links, the static rows, what a throw needs -/
def zSt (n : String) (t : Nat) (F : Int → Int) (A : Nat → Prop) (U : State) (H : Heap) : Prop := va_Z RX5 n "[I" (.ref t) A U H ∧ va_T .int t 6 (fun j => .int (aI F j)) A U H
theorem zSt.go {n : String} {t : Nat} {F : Int → Int} {A A1 : Nat → Prop} {u U : State} {H H1 : Heap} (hvm : u.vm.Alike U.vm) (hq : ∀ a : Nat, a < H.size → ¬ A a → H1[a]? = H[a]?) (hA : ∀ q, A1 q → A q) (h : zSt n t F A u H) : zSt n t F A1 U H1 :=
  ⟨va_Z.moved hvm ((h.1.kept hq).narrow hA), va_T.moved hvm ((h.2.kept hq).narrow hA)⟩
def zAmb (G : ZG) (A : Nat → Prop) (U : State) (H : Heap) : Prop :=
  (∀ w ∈ zNest, va_Nw w U) ∧ zSt "FIRST_SETTINGS" G.2.2.2.2.1 zFs A U H ∧ zSt "LEAST_SETTINGS" G.2.2.2.2.2.1 zLs A U H ∧ zSt "MOST_SETTINGS" G.2.2.2.2.2.2.1 zMs A U H ∧
  True ∧ True ∧ True
theorem zAmb.go {G : ZG} {A A1 : Nat → Prop} {u U : State} {H H1 : Heap} (hW : u.WarmedH U.vm) (hq : ∀ a : Nat, a < H.size → ¬ A a → H1[a]? = H[a]?) (hA : ∀ q, A1 q → A q) (h : zAmb G A u H) : zAmb G A1 U H1 := by
  obtain ⟨h1, h2, h3, h4, h5, h6, h7⟩ := h
  exact ⟨zNest_warm hW h1, h2.go hW.alike hq hA, h3.go hW.alike hq hA, h4.go hW.alike hq hA, h5, h6, h7⟩
def zB (G : ZG) (ws : va_W) (sz : Nat) : State → Prop := fun U => U.heap.size = sz ∧ va_P G.1 vwCl ws U.heap ∧ va_K G.1 vwCl (zT G) U ∧ va_D (fun _ => True) ws ∧ zAmb G (va_A ws sz) U U.heap
def zE (G : ZG) (ws : va_W) (A : Nat → Prop) : State → Prop := fun t => va_P G.1 vwCl ws t.heap ∧ va_K G.1 vwCl (zT G) t ∧ va_D A ws
theorem zB_blind {G : ZG} {As : List Value} {ws : va_W} {sz : Nat} : FrameBlind (va_Pc As (zB G ws sz)) := fun a U g mk q => by
  obtain ⟨q0, q1, qP, qK, qD, qA⟩ := q
  exact ⟨q0, q1, qP, va_K.moved (u := U) (U := U.calling g mk a) (Vm.Alike.refl U.vm) qK, qD, zAmb.go (u := U) (U := U.calling g mk a) (State.WarmedH.refl U) (fun _ _ _ => rfl) (fun _ h => h) qA⟩
abbrev ZT : Type := Program × Launch × Env × Room × State × MethodId × Array Value × List Frame × Method × Code × (State → Prop) × (Nat → Prop)
def Z (G : ZG) (X : ZT) (nL k n : Nat) (WS : va_W) (pc : Nat) (loc : List (Nat × Value)) (st : List Value) : Prop := match X with
  | (p, l, e, R, s, m, args, below, meth, c, Q, A) => ∀ (H : Heap) (locs : List Loc) (ls : Array Slot), va_P G.1 vwCl WS H → va_D A WS → va_S A s.heap H locs → lv_has ls nL loc → W p l e R s m args below meth c H locs k n Q (F0 m pc ls st)
def ZOk (G : ZG) (X : ZT) (nL : Nat) (cc : ByteArray) (own : String) (Ts : List Cond) (R0 : Room) : Prop := match X with
  | (p, l, _, R, s, m, args, _, meth, c, _, A) => p.tables.exec = Jvm.exec ∧ c.code = cc ∧ c.maxLocals = nL ∧ s.vm.findClass own = some m.cls ∧ (∀ w ∈ Ts, w.before args s = true) ∧ va_K G.1 vwCl (zT G) s ∧ (∀ q, s.heap.size ≤ q → A q) ∧ zAmb G A s s.heap ∧ R = R0 ∧ l.stackTraces = false ∧ meth.locks = false
theorem z_fm {α β : Type} (f : α → Option β) : ∀ (is : List α) (w : List β), is.map f = w.map some → is.filterMap f = w
  | [], w, h => by cases w with
    | nil => rfl
    | cons a b => cases h
  | i :: is, w, h => by
    cases w with
    | nil => cases h
    | cons a b =>
      rw [List.map_cons, List.map_cons] at h
      obtain ⟨h1, h2⟩ := List.cons.inj h
      rw [List.filterMap_cons, h1, z_fm f is b h2]
/-! contracts -/
def zMeti (y : MethodName) (ws : List Cond) (rm : Room) (G : ZG) (As : List Value) (wc : va_W) {S : Type} (post : Int32 → S → Prop) (w1 : S → va_W) (mc ms : Nat) : Prop :=
  ∀ (l : Launch) (sz : Nat), l.stackTraces = false → Met l y ws rm (va_Pc As (zB G wc sz)) (va_Qi post (fun u => zE G (w1 u) (va_A wc sz)) (va_A wc sz)) mc ms (va_A wc sz)
def zMetl (y : MethodName) (ws : List Cond) (rm : Room) (G : ZG) (As : List Value) (wc : va_W) {S : Type} (post : Int64 → S → Prop) (w1 : S → va_W) (mc ms : Nat) : Prop :=
  ∀ (l : Launch) (sz : Nat), l.stackTraces = false → Met l y ws rm (va_Pc As (zB G wc sz)) (va_Ql post (fun u => zE G (w1 u) (va_A wc sz)) (va_A wc sz)) mc ms (va_A wc sz)
def zMetd (y : MethodName) (ws : List Cond) (rm : Room) (G : ZG) (As : List Value) (wc : va_W) {S : Type} (post : UInt64 → S → Prop) (w1 : S → va_W) (mc ms : Nat) : Prop :=
  ∀ (l : Launch) (sz : Nat), l.stackTraces = false → Met l y ws rm (va_Pc As (zB G wc sz)) (va_Qd post (fun u => zE G (w1 u) (va_A wc sz)) (va_A wc sz)) mc ms (va_A wc sz)
def zMetv (y : MethodName) (ws : List Cond) (rm : Room) (G : ZG) (As : List Value) (wc : va_W) {S : Type} (post : S → Prop) (w1 : S → va_W) (mc ms : Nat) : Prop :=
  ∀ (l : Launch) (sz : Nat), l.stackTraces = false → Met l y ws rm (va_Pc As (zB G wc sz)) (va_Qv post (fun u => zE G (w1 u) (va_A wc sz)) (va_A wc sz)) mc ms (va_A wc sz)
def zMetr (y : MethodName) (ws : List Cond) (rm : Room) (G : ZG) (As : List Value) (wc : va_W) {S : Type} (post : Nat → S → Prop) (w1 : S → va_W) (mc ms : Nat) : Prop :=
  ∀ (l : Launch) (sz : Nat), l.stackTraces = false → Met l y ws rm (va_Pc As (zB G wc sz)) (va_Qr (fun u : Nat × S => post u.1 u.2) (fun u a t => u.1 = a ∧ zE G (w1 u.2) (va_A wc sz) t) (va_A wc sz)) mc ms (va_A wc sz)
section ZIntro
variable {y : MethodName} {ws ws' : List Cond} {rm : Room} {G : ZG} {As : List Value} {wc : va_W} {S : Type} {w1 : S → va_W} {mc ms nL : Nat} {cc : ByteArray}
theorem z_meti {post : Int32 → S → Prop} {rt : FieldType} (hy : plainName y.cls = true) (hw : ws = Cond.code y cc nL (some rt) :: ws') (hlen : (lg_sl As).length ≤ nL)
    (body : ∀ X : ZT, ZOk G X nL cc y.cls ws rm → (∀ (pc : Nat) (loc : List (Nat × Value)) (r : Int32) (u : S) (WS : va_W), decode cc pc = .ok (.ireturn, 1) → narrow rt (.int r) = .int r → post r u → w1 u = WS → Z G X nL mc ms WS pc loc [.int r]) → Z G X nL 0 0 wc 0 (lv_args 0 As) []) : zMeti y ws rm G As wc post w1 mc ms := by
  intro l sz htr
  refine Met.ofW (cc := cc) (maxL := nL) (ret := some rt) hy hw ?_
  intro p e s m args below meth c s₁ B hml hv
  obtain ⟨rfl, hsz, hP, hK, hD0, hamb⟩ := hv
  subst hsz
  have hD := hD0.self (sz := s.heap.size)
  have hb := body (p, l, e, rm, s, m, As.toArray, below, meth, c, MQ below (va_Qi post (fun u => zE G (w1 u) (va_A wc s.heap.size)) (va_A wc s.heap.size)) As.toArray s mc ms (va_A wc s.heap.size), va_A wc s.heap.size)
    ⟨B.exec, B.bytes, hml, findClass_of_methodNamed B.named, atoms_spec (ws := ws) B.pre, hK, fun q h => Or.inr h, hamb, rfl, htr, B.notSynchronized⟩ ?_
  · rw [lg_entry_eq]
    exact hb s.heap [] _ hP hD va_S.rf (lv_entry As hlen)
  · intro pc loc r u WS d hn hp hWS H locs ls hP hD hS hl
    subst hWS
    exact W.zret B.exec B.bytes B.returns hn (fun t ht hW => ⟨⟨r, u, rfl, hp, by rw [ht]; exact hP, va_K.moved hW.alike hK, hD⟩, hS.F ht⟩) hS.2.2 d B.notSynchronized
theorem z_metl {post : Int64 → S → Prop} (hy : plainName y.cls = true) (hw : ws = Cond.code y cc nL (some .long) :: ws') (hlen : (lg_sl As).length ≤ nL)
    (body : ∀ X : ZT, ZOk G X nL cc y.cls ws rm → (∀ (pc : Nat) (loc : List (Nat × Value)) (r : Int64) (u : S) (WS : va_W), decode cc pc = .ok (.lreturn, 1) → post r u → w1 u = WS → Z G X nL mc ms WS pc loc [.long r]) → Z G X nL 0 0 wc 0 (lv_args 0 As) []) : zMetl y ws rm G As wc post w1 mc ms := by
  intro l sz htr
  refine Met.ofW (cc := cc) (maxL := nL) (ret := some .long) hy hw ?_
  intro p e s m args below meth c s₁ B hml hv
  obtain ⟨rfl, hsz, hP, hK, hD0, hamb⟩ := hv
  subst hsz
  have hD := hD0.self (sz := s.heap.size)
  have hb := body (p, l, e, rm, s, m, As.toArray, below, meth, c, MQ below (va_Ql post (fun u => zE G (w1 u) (va_A wc s.heap.size)) (va_A wc s.heap.size)) As.toArray s mc ms (va_A wc s.heap.size), va_A wc s.heap.size)
    ⟨B.exec, B.bytes, hml, findClass_of_methodNamed B.named, atoms_spec (ws := ws) B.pre, hK, fun q h => Or.inr h, hamb, rfl, htr, B.notSynchronized⟩ ?_
  · rw [lg_entry_eq]
    exact hb s.heap [] _ hP hD va_S.rf (lv_entry As hlen)
  · intro pc loc r u WS d hp hWS H locs ls hP hD hS hl
    subst hWS
    exact W.lret B.exec B.bytes B.returns (fun t ht hW => ⟨⟨r, u, rfl, hp, by rw [ht]; exact hP, va_K.moved hW.alike hK, hD⟩, hS.F ht⟩) hS.2.2 d B.notSynchronized
theorem z_metd {post : UInt64 → S → Prop} (hy : plainName y.cls = true) (hw : ws = Cond.code y cc nL (some .double) :: ws') (hlen : (lg_sl As).length ≤ nL)
    (body : ∀ X : ZT, ZOk G X nL cc y.cls ws rm → (∀ (pc : Nat) (loc : List (Nat × Value)) (r : UInt64) (u : S) (WS : va_W), decode cc pc = .ok (.dreturn, 1) → post r u → w1 u = WS → Z G X nL mc ms WS pc loc [.double r]) → Z G X nL 0 0 wc 0 (lv_args 0 As) []) : zMetd y ws rm G As wc post w1 mc ms := by
  intro l sz htr
  refine Met.ofW (cc := cc) (maxL := nL) (ret := some .double) hy hw ?_
  intro p e s m args below meth c s₁ B hml hv
  obtain ⟨rfl, hsz, hP, hK, hD0, hamb⟩ := hv
  subst hsz
  have hD := hD0.self (sz := s.heap.size)
  have hb := body (p, l, e, rm, s, m, As.toArray, below, meth, c, MQ below (va_Qd post (fun u => zE G (w1 u) (va_A wc s.heap.size)) (va_A wc s.heap.size)) As.toArray s mc ms (va_A wc s.heap.size), va_A wc s.heap.size)
    ⟨B.exec, B.bytes, hml, findClass_of_methodNamed B.named, atoms_spec (ws := ws) B.pre, hK, fun q h => Or.inr h, hamb, rfl, htr, B.notSynchronized⟩ ?_
  · rw [lg_entry_eq]
    exact hb s.heap [] _ hP hD va_S.rf (lv_entry As hlen)
  · intro pc loc r u WS d hp hWS H locs ls hP hD hS hl
    subst hWS
    exact W.dret B.exec B.bytes B.returns (fun t ht hW => ⟨⟨r, u, rfl, hp, by rw [ht]; exact hP, va_K.moved hW.alike hK, hD⟩, hS.F ht⟩) hS.2.2 d B.notSynchronized
theorem z_metv {post : S → Prop} (hy : plainName y.cls = true) (hw : ws = Cond.code y cc nL none :: ws') (hlen : (lg_sl As).length ≤ nL)
    (body : ∀ X : ZT, ZOk G X nL cc y.cls ws rm → (∀ (pc : Nat) (loc : List (Nat × Value)) (u : S) (WS : va_W), decode cc pc = .ok (.return_, 1) → post u → w1 u = WS → Z G X nL mc ms WS pc loc []) → Z G X nL 0 0 wc 0 (lv_args 0 As) []) : zMetv y ws rm G As wc post w1 mc ms := by
  intro l sz htr
  refine Met.ofW (cc := cc) (maxL := nL) (ret := none) hy hw ?_
  intro p e s m args below meth c s₁ B hml hv
  obtain ⟨rfl, hsz, hP, hK, hD0, hamb⟩ := hv
  subst hsz
  have hD := hD0.self (sz := s.heap.size)
  have hb := body (p, l, e, rm, s, m, As.toArray, below, meth, c, MQ below (va_Qv post (fun u => zE G (w1 u) (va_A wc s.heap.size)) (va_A wc s.heap.size)) As.toArray s mc ms (va_A wc s.heap.size), va_A wc s.heap.size)
    ⟨B.exec, B.bytes, hml, findClass_of_methodNamed B.named, atoms_spec (ws := ws) B.pre, hK, fun q h => Or.inr h, hamb, rfl, htr, B.notSynchronized⟩ ?_
  · rw [lg_entry_eq]
    exact hb s.heap [] _ hP hD va_S.rf (lv_entry As hlen)
  · intro pc loc u WS d hp hWS H locs ls hP hD hS hl
    subst hWS
    exact W.vret B.exec B.bytes B.returns (fun t ht hW => ⟨⟨u, rfl, hp, by rw [ht]; exact hP, va_K.moved hW.alike hK, hD⟩, hS.F ht⟩) hS.2.2 d B.notSynchronized
theorem z_metr {post : Nat → S → Prop} {rt : FieldType} (hrt : (∃ n, rt = .object n) ∨ ∃ t, rt = .array t) (hy : plainName y.cls = true) (hw : ws = Cond.code y cc nL (some rt) :: ws') (hlen : (lg_sl As).length ≤ nL)
    (body : ∀ X : ZT, ZOk G X nL cc y.cls ws rm → (∀ (pc : Nat) (loc : List (Nat × Value)) (r : Nat) (u : S) (WS : va_W), decode cc pc = .ok (.areturn, 1) → post r u → w1 u = WS → Z G X nL mc ms WS pc loc [.ref r]) → Z G X nL 0 0 wc 0 (lv_args 0 As) []) : zMetr y ws rm G As wc post w1 mc ms := by
  intro l sz htr
  refine Met.ofW (cc := cc) (maxL := nL) (ret := some rt) hy hw ?_
  intro p e s m args below meth c s₁ B hml hv
  obtain ⟨rfl, hsz, hP, hK, hD0, hamb⟩ := hv
  subst hsz
  have hD := hD0.self (sz := s.heap.size)
  have hb := body (p, l, e, rm, s, m, As.toArray, below, meth, c, MQ below (va_Qr (fun u : Nat × S => post u.1 u.2) (fun u a t => u.1 = a ∧ zE G (w1 u.2) (va_A wc s.heap.size) t) (va_A wc s.heap.size)) As.toArray s mc ms (va_A wc s.heap.size), va_A wc s.heap.size)
    ⟨B.exec, B.bytes, hml, findClass_of_methodNamed B.named, atoms_spec (ws := ws) B.pre, hK, fun q h => Or.inr h, hamb, rfl, htr, B.notSynchronized⟩ ?_
  · rw [lg_entry_eq]
    exact hb s.heap [] _ hP hD va_S.rf (lv_entry As hlen)
  · intro pc loc r u WS d hp hWS H locs ls hP hD hS hl
    subst hWS
    exact W.aret B.exec B.bytes B.returns hrt (Or.inr ⟨r, rfl⟩) (fun t ht hW => ⟨⟨(r, u), r, rfl, hp, rfl, by rw [ht]; exact hP, va_K.moved hW.alike hK, hD⟩, hS.F ht⟩) hS.2.2 d B.notSynchronized
end ZIntro
def bI (P : Prop) [Decidable P] : Int := if P then 1 else 0
theorem bI_t {P : Prop} [Decidable P] (h : P) : bI P = 1 := if_pos h
theorem bI_f {P : Prop} [Decidable P] (h : ¬ P) : bI P = 0 := if_neg h
theorem bI_r {P : Prop} [Decidable P] : 0 ≤ bI P ∧ bI P ≤ 1 := by
  unfold bI
  split <;> omega
theorem bI_z {P : Prop} [Decidable P] : iI (bI P) = 0 ↔ ¬ P := by
  by_cases h : P
  · rw [bI_t h]
    exact ⟨fun e => absurd e (by decide +kernel), fun e => absurd h e⟩
  · rw [bI_f h]
    exact ⟨fun _ => h, fun _ => by decide +kernel⟩
theorem bI_nz {P : Prop} [Decidable P] : ¬ iI (bI P) = 0 ↔ P := ⟨fun h => Classical.not_not.mp (fun e => h (bI_z.mpr e)), fun h e => (bI_z.mp e) h⟩
theorem zb1 {P : Prop} [Decidable P] (h : P) : iI 1 = iI (bI P) := by rw [bI_t h]
theorem zb0 {P : Prop} [Decidable P] (h : ¬ P) : iI 0 = iI (bI P) := by rw [bI_f h]
section ZRows
variable {G : ZG} {X : ZT} {nL k n : Nat} {cc : ByteArray} {own : String} {Ts : List Cond} {R0 : Room} {WS : va_W} {pc : Nat} {loc : List (Nat × Value)} {st : List Value}
theorem z_iconst (hX : ZOk G X nL cc own Ts R0) {z : Int} (d : decode cc pc = .ok (.iconst z, 1)) (kk : Z G X nL k n WS (pc + 1) loc (.int (iI z) :: st)) : Z G X nL k n WS pc loc (st) := by
  obtain ⟨p, l, e, R, s, m, args, below, meth, c, Q, A⟩ := X
  obtain ⟨hx, hb, hml, hown, hts, hK, hA, hG, hR, htr, hlo⟩ := hX
  intro H locs ls hP hD hS hl
  exact lv_iconst hx hb d rfl (kk H locs ls hP hD hS hl)
theorem z_bipush (hX : ZOk G X nL cc own Ts R0) {q z : Int} (hz : (Int8.ofInt q).toInt = z) (d : decode cc pc = .ok (.bipush q, 2)) (kk : Z G X nL k n WS (pc + 2) loc (.int (iI z) :: st)) : Z G X nL k n WS pc loc (st) := by
  obtain ⟨p, l, e, R, s, m, args, below, meth, c, Q, A⟩ := X
  obtain ⟨hx, hb, hml, hown, hts, hK, hA, hG, hR, htr, hlo⟩ := hX
  intro H locs ls hP hD hS hl
  exact lv_bipush hx hb d (iI_bip hz) (kk H locs ls hP hD hS hl)
theorem z_sipush (hX : ZOk G X nL cc own Ts R0) {q z : Int} (hz : (Int16.ofInt q).toInt = z) (d : decode cc pc = .ok (.sipush q, 3)) (kk : Z G X nL k n WS (pc + 3) loc (.int (iI z) :: st)) : Z G X nL k n WS pc loc (st) := by
  obtain ⟨p, l, e, R, s, m, args, below, meth, c, Q, A⟩ := X
  obtain ⟨hx, hb, hml, hown, hts, hK, hA, hG, hR, htr, hlo⟩ := hX
  intro H locs ls hP hD hS hl
  exact lv_sipush hx hb d (iI_sip hz) (kk H locs ls hP hD hS hl)
theorem z_lconst (hX : ZOk G X nL cc own Ts R0) {q : Fin 2} {v : Int64} (d : decode cc pc = .ok (.lconst q, 1)) (hv : Int64.ofNat (q : Nat) = v) (kk : Z G X nL k n WS (pc + 1) loc (.long v :: st)) : Z G X nL k n WS pc loc (st) := by
  obtain ⟨p, l, e, R, s, m, args, below, meth, c, Q, A⟩ := X
  obtain ⟨hx, hb, hml, hown, hts, hK, hA, hG, hR, htr, hlo⟩ := hX
  intro H locs ls hP hD hS hl
  exact lv_lconst hx hb d hv (kk H locs ls hP hD hS hl)
theorem z_dconst0 (hX : ZOk G X nL cc own Ts R0) (d : decode cc pc = .ok (.dconst 0, 1)) (kk : Z G X nL k n WS (pc + 1) loc (.double 0 :: st)) : Z G X nL k n WS pc loc (st) := by
  obtain ⟨p, l, e, R, s, m, args, below, meth, c, Q, A⟩ := X
  obtain ⟨hx, hb, hml, hown, hts, hK, hA, hG, hR, htr, hlo⟩ := hX
  intro H locs ls hP hD hS hl
  exact lv_dconst0 hx hb d (kk H locs ls hP hD hS hl)
theorem z_dconst1 (hX : ZOk G X nL cc own Ts R0) (d : decode cc pc = .ok (.dconst 1, 1)) (kk : Z G X nL k n WS (pc + 1) loc (.double 4607182418800017408 :: st)) : Z G X nL k n WS pc loc (st) := by
  obtain ⟨p, l, e, R, s, m, args, below, meth, c, Q, A⟩ := X
  obtain ⟨hx, hb, hml, hown, hts, hK, hA, hG, hR, htr, hlo⟩ := hX
  intro H locs ls hP hD hS hl
  exact lv_dconst1 hx hb d (kk H locs ls hP hD hS hl)
theorem z_ldc2 (hX : ZOk G X nL cc own Ts R0) {i : Nat} {v : Int64} (hc : Cond.constantLong own i v ∈ Ts) (d : decode cc pc = .ok (.ldc2_w i, 3)) (kk : Z G X nL k n WS (pc + 3) loc (.long v :: st)) : Z G X nL k n WS pc loc (st) := by
  obtain ⟨p, l, e, R, s, m, args, below, meth, c, Q, A⟩ := X
  obtain ⟨hx, hb, hml, hown, hts, hK, hA, hG, hR, htr, hlo⟩ := hX
  intro H locs ls hP hD hS hl
  exact lv_ldc2 hx hb hown (hts _ hc) d (kk H locs ls hP hD hS hl)
theorem z_ldc2d (hX : ZOk G X nL cc own Ts R0) {i : Nat} {v : UInt64} (hc : Cond.constantDouble own i v ∈ Ts) (d : decode cc pc = .ok (.ldc2_w i, 3)) (kk : Z G X nL k n WS (pc + 3) loc (.double v :: st)) : Z G X nL k n WS pc loc (st) := by
  obtain ⟨p, l, e, R, s, m, args, below, meth, c, Q, A⟩ := X
  obtain ⟨hx, hb, hml, hown, hts, hK, hA, hG, hR, htr, hlo⟩ := hX
  intro H locs ls hP hD hS hl
  exact lv_ldc2d hx hb hown (hts _ hc) d (kk H locs ls hP hD hS hl)
theorem z_aconst_null (hX : ZOk G X nL cc own Ts R0) (d : decode cc pc = .ok (.aconst_null, 1)) (kk : Z G X nL k n WS (pc + 1) loc (.null :: st)) : Z G X nL k n WS pc loc (st) := by
  obtain ⟨p, l, e, R, s, m, args, below, meth, c, Q, A⟩ := X
  obtain ⟨hx, hb, hml, hown, hts, hK, hA, hG, hR, htr, hlo⟩ := hX
  intro H locs ls hP hD hS hl
  exact lv_null hx hb d (kk H locs ls hP hD hS hl)
theorem z_iload_n (hX : ZOk G X nL cc own Ts R0) {k0 : Fin 4} {i : Nat} {x : Int32} (q : Nat) (hi : (k0 : Nat) = i) (he : loc[q]? = some (i, .int x)) (d : decode cc pc = .ok (.iload_n k0, 1)) (kk : Z G X nL k n WS (pc + 1) loc (.int x :: st)) : Z G X nL k n WS pc loc (st) := by
  obtain ⟨p, l, e, R, s, m, args, below, meth, c, Q, A⟩ := X
  obtain ⟨hx, hb, hml, hown, hts, hK, hA, hG, hR, htr, hlo⟩ := hX
  intro H locs ls hP hD hS hl
  exact lv_iload_n hx hb d hi (lv_at hl q he) (kk H locs ls hP hD hS hl)
theorem z_iload (hX : ZOk G X nL cc own Ts R0) {i : Nat} {x : Int32} (q : Nat) (he : loc[q]? = some (i, .int x)) (d : decode cc pc = .ok (.iload i, 2)) (kk : Z G X nL k n WS (pc + 2) loc (.int x :: st)) : Z G X nL k n WS pc loc (st) := by
  obtain ⟨p, l, e, R, s, m, args, below, meth, c, Q, A⟩ := X
  obtain ⟨hx, hb, hml, hown, hts, hK, hA, hG, hR, htr, hlo⟩ := hX
  intro H locs ls hP hD hS hl
  exact lv_iload hx hb d (lv_at hl q he) (kk H locs ls hP hD hS hl)
theorem z_istore_n (hX : ZOk G X nL cc own Ts R0) {k0 : Fin 4} {i : Nat} {x : Int32} {loc' : List (Nat × Value)} (hi : (k0 : Nat) = i) (hn : i < nL) (he : (i, Value.int x) :: loc.filter (fun q => !(q.1 == i) && !(q.1 + 1 == i && q.2.category == 2)) = loc') (d : decode cc pc = .ok (.istore_n k0, 1)) (kk : Z G X nL k n WS (pc + 1) loc' (st)) : Z G X nL k n WS pc loc (.int x :: st) := by
  obtain ⟨p, l, e, R, s, m, args, below, meth, c, Q, A⟩ := X
  obtain ⟨hx, hb, hml, hown, hts, hK, hA, hG, hR, htr, hlo⟩ := hX
  intro H locs ls hP hD hS hl
  exact lv_istore_n hx hb d hi hl hn he (fun ls hl => kk H locs ls hP hD hS hl)
theorem z_istore (hX : ZOk G X nL cc own Ts R0) {i : Nat} {x : Int32} {loc' : List (Nat × Value)} (hn : i < nL) (he : (i, Value.int x) :: loc.filter (fun q => !(q.1 == i) && !(q.1 + 1 == i && q.2.category == 2)) = loc') (d : decode cc pc = .ok (.istore i, 2)) (kk : Z G X nL k n WS (pc + 2) loc' (st)) : Z G X nL k n WS pc loc (.int x :: st) := by
  obtain ⟨p, l, e, R, s, m, args, below, meth, c, Q, A⟩ := X
  obtain ⟨hx, hb, hml, hown, hts, hK, hA, hG, hR, htr, hlo⟩ := hX
  intro H locs ls hP hD hS hl
  exact lv_istore hx hb d hl hn he (fun ls hl => kk H locs ls hP hD hS hl)
theorem z_lload_n (hX : ZOk G X nL cc own Ts R0) {k0 : Fin 4} {i : Nat} {x : Int64} (q : Nat) (hi : (k0 : Nat) = i) (he : loc[q]? = some (i, .long x)) (d : decode cc pc = .ok (.lload_n k0, 1)) (kk : Z G X nL k n WS (pc + 1) loc (.long x :: st)) : Z G X nL k n WS pc loc (st) := by
  obtain ⟨p, l, e, R, s, m, args, below, meth, c, Q, A⟩ := X
  obtain ⟨hx, hb, hml, hown, hts, hK, hA, hG, hR, htr, hlo⟩ := hX
  intro H locs ls hP hD hS hl
  exact lv_lload_n hx hb d hi (lv_at hl q he) (kk H locs ls hP hD hS hl)
theorem z_lload (hX : ZOk G X nL cc own Ts R0) {i : Nat} {x : Int64} (q : Nat) (he : loc[q]? = some (i, .long x)) (d : decode cc pc = .ok (.lload i, 2)) (kk : Z G X nL k n WS (pc + 2) loc (.long x :: st)) : Z G X nL k n WS pc loc (st) := by
  obtain ⟨p, l, e, R, s, m, args, below, meth, c, Q, A⟩ := X
  obtain ⟨hx, hb, hml, hown, hts, hK, hA, hG, hR, htr, hlo⟩ := hX
  intro H locs ls hP hD hS hl
  exact lv_lload hx hb d (lv_at hl q he) (kk H locs ls hP hD hS hl)
theorem z_lstore_n (hX : ZOk G X nL cc own Ts R0) {k0 : Fin 4} {i : Nat} {x : Int64} {loc' : List (Nat × Value)} (hi : (k0 : Nat) = i) (hn : i + 1 < nL) (he : (i, Value.long x) :: loc.filter (fun q => !(q.1 == i) && (!(q.1 == i + 1) && !(q.1 + 1 == i && q.2.category == 2))) = loc') (d : decode cc pc = .ok (.lstore_n k0, 1)) (kk : Z G X nL k n WS (pc + 1) loc' (st)) : Z G X nL k n WS pc loc (.long x :: st) := by
  obtain ⟨p, l, e, R, s, m, args, below, meth, c, Q, A⟩ := X
  obtain ⟨hx, hb, hml, hown, hts, hK, hA, hG, hR, htr, hlo⟩ := hX
  intro H locs ls hP hD hS hl
  exact lv_lstore_n hx hb d hi hl hn he (fun ls hl => kk H locs ls hP hD hS hl)
theorem z_lstore (hX : ZOk G X nL cc own Ts R0) {i : Nat} {x : Int64} {loc' : List (Nat × Value)} (hn : i + 1 < nL) (he : (i, Value.long x) :: loc.filter (fun q => !(q.1 == i) && (!(q.1 == i + 1) && !(q.1 + 1 == i && q.2.category == 2))) = loc') (d : decode cc pc = .ok (.lstore i, 2)) (kk : Z G X nL k n WS (pc + 2) loc' (st)) : Z G X nL k n WS pc loc (.long x :: st) := by
  obtain ⟨p, l, e, R, s, m, args, below, meth, c, Q, A⟩ := X
  obtain ⟨hx, hb, hml, hown, hts, hK, hA, hG, hR, htr, hlo⟩ := hX
  intro H locs ls hP hD hS hl
  exact lv_lstore hx hb d hl hn he (fun ls hl => kk H locs ls hP hD hS hl)
theorem z_aload_n (hX : ZOk G X nL cc own Ts R0) {k0 : Fin 4} {i : Nat} {x : Nat} (q : Nat) (hi : (k0 : Nat) = i) (he : loc[q]? = some (i, .ref x)) (d : decode cc pc = .ok (.aload_n k0, 1)) (kk : Z G X nL k n WS (pc + 1) loc (.ref x :: st)) : Z G X nL k n WS pc loc (st) := by
  obtain ⟨p, l, e, R, s, m, args, below, meth, c, Q, A⟩ := X
  obtain ⟨hx, hb, hml, hown, hts, hK, hA, hG, hR, htr, hlo⟩ := hX
  intro H locs ls hP hD hS hl
  exact lv_aload_n hx hb d hi (lv_at hl q he) (kk H locs ls hP hD hS hl)
theorem z_aload (hX : ZOk G X nL cc own Ts R0) {i : Nat} {x : Nat} (q : Nat) (he : loc[q]? = some (i, .ref x)) (d : decode cc pc = .ok (.aload i, 2)) (kk : Z G X nL k n WS (pc + 2) loc (.ref x :: st)) : Z G X nL k n WS pc loc (st) := by
  obtain ⟨p, l, e, R, s, m, args, below, meth, c, Q, A⟩ := X
  obtain ⟨hx, hb, hml, hown, hts, hK, hA, hG, hR, htr, hlo⟩ := hX
  intro H locs ls hP hD hS hl
  exact lv_aload hx hb d (lv_at hl q he) (kk H locs ls hP hD hS hl)
theorem z_astore_n (hX : ZOk G X nL cc own Ts R0) {k0 : Fin 4} {i : Nat} {x : Nat} {loc' : List (Nat × Value)} (hi : (k0 : Nat) = i) (hn : i < nL) (he : (i, Value.ref x) :: loc.filter (fun q => !(q.1 == i) && !(q.1 + 1 == i && q.2.category == 2)) = loc') (d : decode cc pc = .ok (.astore_n k0, 1)) (kk : Z G X nL k n WS (pc + 1) loc' (st)) : Z G X nL k n WS pc loc (.ref x :: st) := by
  obtain ⟨p, l, e, R, s, m, args, below, meth, c, Q, A⟩ := X
  obtain ⟨hx, hb, hml, hown, hts, hK, hA, hG, hR, htr, hlo⟩ := hX
  intro H locs ls hP hD hS hl
  exact lv_astore_n hx hb d hi hl hn he (fun ls hl => kk H locs ls hP hD hS hl)
theorem z_astore (hX : ZOk G X nL cc own Ts R0) {i : Nat} {x : Nat} {loc' : List (Nat × Value)} (hn : i < nL) (he : (i, Value.ref x) :: loc.filter (fun q => !(q.1 == i) && !(q.1 + 1 == i && q.2.category == 2)) = loc') (d : decode cc pc = .ok (.astore i, 2)) (kk : Z G X nL k n WS (pc + 2) loc' (st)) : Z G X nL k n WS pc loc (.ref x :: st) := by
  obtain ⟨p, l, e, R, s, m, args, below, meth, c, Q, A⟩ := X
  obtain ⟨hx, hb, hml, hown, hts, hK, hA, hG, hR, htr, hlo⟩ := hX
  intro H locs ls hP hD hS hl
  exact lv_astore hx hb d hl hn he (fun ls hl => kk H locs ls hP hD hS hl)
theorem z_dload_n (hX : ZOk G X nL cc own Ts R0) {k0 : Fin 4} {i : Nat} {x : UInt64} (q : Nat) (hi : (k0 : Nat) = i) (he : loc[q]? = some (i, .double x)) (d : decode cc pc = .ok (.dload_n k0, 1)) (kk : Z G X nL k n WS (pc + 1) loc (.double x :: st)) : Z G X nL k n WS pc loc (st) := by
  obtain ⟨p, l, e, R, s, m, args, below, meth, c, Q, A⟩ := X
  obtain ⟨hx, hb, hml, hown, hts, hK, hA, hG, hR, htr, hlo⟩ := hX
  intro H locs ls hP hD hS hl
  exact lv_dload_n hx hb d hi (lv_at hl q he) (kk H locs ls hP hD hS hl)
theorem z_dload (hX : ZOk G X nL cc own Ts R0) {i : Nat} {x : UInt64} (q : Nat) (he : loc[q]? = some (i, .double x)) (d : decode cc pc = .ok (.dload i, 2)) (kk : Z G X nL k n WS (pc + 2) loc (.double x :: st)) : Z G X nL k n WS pc loc (st) := by
  obtain ⟨p, l, e, R, s, m, args, below, meth, c, Q, A⟩ := X
  obtain ⟨hx, hb, hml, hown, hts, hK, hA, hG, hR, htr, hlo⟩ := hX
  intro H locs ls hP hD hS hl
  exact lv_dload hx hb d (lv_at hl q he) (kk H locs ls hP hD hS hl)
theorem z_dstore_n (hX : ZOk G X nL cc own Ts R0) {k0 : Fin 4} {i : Nat} {x : UInt64} {loc' : List (Nat × Value)} (hi : (k0 : Nat) = i) (hn : i + 1 < nL) (he : (i, Value.double x) :: loc.filter (fun q => !(q.1 == i) && (!(q.1 == i + 1) && !(q.1 + 1 == i && q.2.category == 2))) = loc') (d : decode cc pc = .ok (.dstore_n k0, 1)) (kk : Z G X nL k n WS (pc + 1) loc' (st)) : Z G X nL k n WS pc loc (.double x :: st) := by
  obtain ⟨p, l, e, R, s, m, args, below, meth, c, Q, A⟩ := X
  obtain ⟨hx, hb, hml, hown, hts, hK, hA, hG, hR, htr, hlo⟩ := hX
  intro H locs ls hP hD hS hl
  exact lv_dstore_n hx hb d hi hl hn he (fun ls hl => kk H locs ls hP hD hS hl)
theorem z_dstore (hX : ZOk G X nL cc own Ts R0) {i : Nat} {x : UInt64} {loc' : List (Nat × Value)} (hn : i + 1 < nL) (he : (i, Value.double x) :: loc.filter (fun q => !(q.1 == i) && (!(q.1 == i + 1) && !(q.1 + 1 == i && q.2.category == 2))) = loc') (d : decode cc pc = .ok (.dstore i, 2)) (kk : Z G X nL k n WS (pc + 2) loc' (st)) : Z G X nL k n WS pc loc (.double x :: st) := by
  obtain ⟨p, l, e, R, s, m, args, below, meth, c, Q, A⟩ := X
  obtain ⟨hx, hb, hml, hown, hts, hK, hA, hG, hR, htr, hlo⟩ := hX
  intro H locs ls hP hD hS hl
  exact lv_dstore hx hb d hl hn he (fun ls hl => kk H locs ls hP hD hS hl)
theorem z_iinc (hX : ZOk G X nL cc own Ts R0) {i : Nat} {q z : Int} {loc' : List (Nat × Value)} (w : Nat) (hk : loc[w]? = some (i, .int (iI z))) (hn : i < nL) (he : (i, Value.int (iI (z + q))) :: loc.filter (fun q => !(q.1 == i) && !(q.1 + 1 == i && q.2.category == 2)) = loc') (d : decode cc pc = .ok (.iinc i q, 3)) (kk : Z G X nL k n WS (pc + 3) loc' (st)) : Z G X nL k n WS pc loc (st) := by
  obtain ⟨p, l, e, R, s, m, args, below, meth, c, Q, A⟩ := X
  obtain ⟨hx, hb, hml, hown, hts, hK, hA, hG, hR, htr, hlo⟩ := hX
  intro H locs ls hP hD hS hl
  exact lv_iinc (v := iI (z + q)) hx hb d hl (k := w) hk (iI_add z q) hn he (fun ls hl => kk H locs ls hP hD hS hl)
theorem z_iadd (hX : ZOk G X nL cc own Ts R0) {a b : Int} (d : decode cc pc = .ok (.iadd, 1)) (kk : Z G X nL k n WS (pc + 1) loc (.int (iI (a + b)) :: st)) : Z G X nL k n WS pc loc (.int (iI b) :: .int (iI a) :: st) := by
  obtain ⟨p, l, e, R, s, m, args, below, meth, c, Q, A⟩ := X
  obtain ⟨hx, hb, hml, hown, hts, hK, hA, hG, hR, htr, hlo⟩ := hX
  intro H locs ls hP hD hS hl
  exact lv_iadd hx hb d (by rw [iI_add]; exact kk H locs ls hP hD hS hl)
theorem z_isub (hX : ZOk G X nL cc own Ts R0) {a b : Int} (d : decode cc pc = .ok (.isub, 1)) (kk : Z G X nL k n WS (pc + 1) loc (.int (iI (a - b)) :: st)) : Z G X nL k n WS pc loc (.int (iI b) :: .int (iI a) :: st) := by
  obtain ⟨p, l, e, R, s, m, args, below, meth, c, Q, A⟩ := X
  obtain ⟨hx, hb, hml, hown, hts, hK, hA, hG, hR, htr, hlo⟩ := hX
  intro H locs ls hP hD hS hl
  exact lv_isub hx hb d (by rw [iI_sub]; exact kk H locs ls hP hD hS hl)
theorem z_imul (hX : ZOk G X nL cc own Ts R0) {a b : Int} (d : decode cc pc = .ok (.imul, 1)) (kk : Z G X nL k n WS (pc + 1) loc (.int (iI (a * b)) :: st)) : Z G X nL k n WS pc loc (.int (iI b) :: .int (iI a) :: st) := by
  obtain ⟨p, l, e, R, s, m, args, below, meth, c, Q, A⟩ := X
  obtain ⟨hx, hb, hml, hown, hts, hK, hA, hG, hR, htr, hlo⟩ := hX
  intro H locs ls hP hD hS hl
  exact lv_imul hx hb d (by rw [iI_mul]; exact kk H locs ls hP hD hS hl)
theorem z_ineg (hX : ZOk G X nL cc own Ts R0) {a : Int} (d : decode cc pc = .ok (.ineg, 1)) (kk : Z G X nL k n WS (pc + 1) loc (.int (iI (-a)) :: st)) : Z G X nL k n WS pc loc (.int (iI a) :: st) := by
  obtain ⟨p, l, e, R, s, m, args, below, meth, c, Q, A⟩ := X
  obtain ⟨hx, hb, hml, hown, hts, hK, hA, hG, hR, htr, hlo⟩ := hX
  intro H locs ls hP hD hS hl
  exact lv_ineg hx hb d (by rw [iI_neg]; exact kk H locs ls hP hD hS hl)
theorem z_idiv (hX : ZOk G X nL cc own Ts R0) {a b : Int} (ha : 0 ≤ a ∧ a < 2147483648) (hbb : 0 < b ∧ b < 2147483648) (d : decode cc pc = .ok (.idiv, 1)) (kk : Z G X nL k n WS (pc + 1) loc (.int (iI (a / b)) :: st)) : Z G X nL k n WS pc loc (.int (iI b) :: .int (iI a) :: st) := by
  obtain ⟨p, l, e, R, s, m, args, below, meth, c, Q, A⟩ := X
  obtain ⟨hx, hb, hml, hown, hts, hK, hA, hG, hR, htr, hlo⟩ := hX
  intro H locs ls hP hD hS hl
  exact lv_idiv hx hb d (iI_nz hbb) (by rw [iI_div ha hbb]; exact kk H locs ls hP hD hS hl)
theorem z_irem (hX : ZOk G X nL cc own Ts R0) {a b : Int} (ha : 0 ≤ a ∧ a < 2147483648) (hbb : 0 < b ∧ b < 2147483648) (d : decode cc pc = .ok (.irem, 1)) (kk : Z G X nL k n WS (pc + 1) loc (.int (iI (a % b)) :: st)) : Z G X nL k n WS pc loc (.int (iI b) :: .int (iI a) :: st) := by
  obtain ⟨p, l, e, R, s, m, args, below, meth, c, Q, A⟩ := X
  obtain ⟨hx, hb, hml, hown, hts, hK, hA, hG, hR, htr, hlo⟩ := hX
  intro H locs ls hP hD hS hl
  exact lv_irem hx hb d (iI_nz hbb) (by rw [iI_rem ha hbb]; exact kk H locs ls hP hD hS hl)
theorem z_i2l (hX : ZOk G X nL cc own Ts R0) {x : Int32} (d : decode cc pc = .ok (.i2l, 1)) (kk : Z G X nL k n WS (pc + 1) loc (.long x.toInt64 :: st)) : Z G X nL k n WS pc loc (.int x :: st) := by
  obtain ⟨p, l, e, R, s, m, args, below, meth, c, Q, A⟩ := X
  obtain ⟨hx, hb, hml, hown, hts, hK, hA, hG, hR, htr, hlo⟩ := hX
  intro H locs ls hP hD hS hl
  exact lv_i2l hx hb d rfl (kk H locs ls hP hD hS hl)
theorem z_i2d (hX : ZOk G X nL cc own Ts R0) {x : Int32} (d : decode cc pc = .ok (.i2d, 1)) (kk : Z G X nL k n WS (pc + 1) loc (.double (FP.i2d x) :: st)) : Z G X nL k n WS pc loc (.int x :: st) := by
  obtain ⟨p, l, e, R, s, m, args, below, meth, c, Q, A⟩ := X
  obtain ⟨hx, hb, hml, hown, hts, hK, hA, hG, hR, htr, hlo⟩ := hX
  intro H locs ls hP hD hS hl
  exact lv_i2d hx hb d (kk H locs ls hP hD hS hl)
theorem z_d2l (hX : ZOk G X nL cc own Ts R0) {x : UInt64} (d : decode cc pc = .ok (.d2l, 1)) (kk : Z G X nL k n WS (pc + 1) loc (.long (FP.d2l x) :: st)) : Z G X nL k n WS pc loc (.double x :: st) := by
  obtain ⟨p, l, e, R, s, m, args, below, meth, c, Q, A⟩ := X
  obtain ⟨hx, hb, hml, hown, hts, hK, hA, hG, hR, htr, hlo⟩ := hX
  intro H locs ls hP hD hS hl
  exact lv_d2l hx hb d (kk H locs ls hP hD hS hl)
theorem z_ladd (hX : ZOk G X nL cc own Ts R0) {a b : Int64} (d : decode cc pc = .ok (.ladd, 1)) (kk : Z G X nL k n WS (pc + 1) loc (.long (a + b) :: st)) : Z G X nL k n WS pc loc (.long b :: .long a :: st) := by
  obtain ⟨p, l, e, R, s, m, args, below, meth, c, Q, A⟩ := X
  obtain ⟨hx, hb, hml, hown, hts, hK, hA, hG, hR, htr, hlo⟩ := hX
  intro H locs ls hP hD hS hl
  exact lv_ladd hx hb d (kk H locs ls hP hD hS hl)
theorem z_lsub (hX : ZOk G X nL cc own Ts R0) {a b : Int64} (d : decode cc pc = .ok (.lsub, 1)) (kk : Z G X nL k n WS (pc + 1) loc (.long (a - b) :: st)) : Z G X nL k n WS pc loc (.long b :: .long a :: st) := by
  obtain ⟨p, l, e, R, s, m, args, below, meth, c, Q, A⟩ := X
  obtain ⟨hx, hb, hml, hown, hts, hK, hA, hG, hR, htr, hlo⟩ := hX
  intro H locs ls hP hD hS hl
  exact lv_lsub hx hb d (kk H locs ls hP hD hS hl)
theorem z_lmul (hX : ZOk G X nL cc own Ts R0) {a b : Int64} (d : decode cc pc = .ok (.lmul, 1)) (kk : Z G X nL k n WS (pc + 1) loc (.long (a * b) :: st)) : Z G X nL k n WS pc loc (.long b :: .long a :: st) := by
  obtain ⟨p, l, e, R, s, m, args, below, meth, c, Q, A⟩ := X
  obtain ⟨hx, hb, hml, hown, hts, hK, hA, hG, hR, htr, hlo⟩ := hX
  intro H locs ls hP hD hS hl
  exact lv_lmul hx hb d (kk H locs ls hP hD hS hl)
theorem z_lshl (hX : ZOk G X nL cc own Ts R0) {x v : Int64} {y : Int32} (hv : x <<< (y.toInt64 &&& 63) = v) (d : decode cc pc = .ok (.lshl, 1)) (kk : Z G X nL k n WS (pc + 1) loc (.long v :: st)) : Z G X nL k n WS pc loc (.int y :: .long x :: st) := by
  obtain ⟨p, l, e, R, s, m, args, below, meth, c, Q, A⟩ := X
  obtain ⟨hx, hb, hml, hown, hts, hK, hA, hG, hR, htr, hlo⟩ := hX
  intro H locs ls hP hD hS hl
  exact lv_lshl hx hb d hv (kk H locs ls hP hD hS hl)
theorem z_ddiv (hX : ZOk G X nL cc own Ts R0) {x y : UInt64} (hne : vf_n64 (FP.ddiv x y)) (d : decode cc pc = .ok (.ddiv, 1)) (kk : Z G X nL k n WS (pc + 1) loc (.double (FP.ddiv x y) :: st)) : Z G X nL k n WS pc loc (.double y :: .double x :: st) := by
  obtain ⟨p, l, e, R, s, m, args, below, meth, c, Q, A⟩ := X
  obtain ⟨hx, hb, hml, hown, hts, hK, hA, hG, hR, htr, hlo⟩ := hX
  intro H locs ls hP hD hS hl
  exact lv_ddiv hx hb d hne (kk H locs ls hP hD hS hl)
theorem z_dmul (hX : ZOk G X nL cc own Ts R0) {x y : UInt64} (hne : vf_n64 (FP.dmul x y)) (d : decode cc pc = .ok (.dmul, 1)) (kk : Z G X nL k n WS (pc + 1) loc (.double (FP.dmul x y) :: st)) : Z G X nL k n WS pc loc (.double y :: .double x :: st) := by
  obtain ⟨p, l, e, R, s, m, args, below, meth, c, Q, A⟩ := X
  obtain ⟨hx, hb, hml, hown, hts, hK, hA, hG, hR, htr, hlo⟩ := hX
  intro H locs ls hP hD hS hl
  exact lv_dmul hx hb d hne (kk H locs ls hP hD hS hl)
theorem z_dsub (hX : ZOk G X nL cc own Ts R0) {x y : UInt64} (hne : vf_n64 (FP.dsub x y)) (d : decode cc pc = .ok (.dsub, 1)) (kk : Z G X nL k n WS (pc + 1) loc (.double (FP.dsub x y) :: st)) : Z G X nL k n WS pc loc (.double y :: .double x :: st) := by
  obtain ⟨p, l, e, R, s, m, args, below, meth, c, Q, A⟩ := X
  obtain ⟨hx, hb, hml, hown, hts, hK, hA, hG, hR, htr, hlo⟩ := hX
  intro H locs ls hP hD hS hl
  exact lv_dsub hx hb d hne (kk H locs ls hP hD hS hl)
theorem z_dcmp (hX : ZOk G X nL cc own Ts R0) {x y : UInt64} {op : CmpOp} (d : decode cc pc = .ok (.dcmp op, 1)) (kk : Z G X nL k n WS (pc + 1) loc (.int (Op.cmpValue (FP.dcmp x y) op) :: st)) : Z G X nL k n WS pc loc (.double y :: .double x :: st) := by
  obtain ⟨p, l, e, R, s, m, args, below, meth, c, Q, A⟩ := X
  obtain ⟨hx, hb, hml, hown, hts, hK, hA, hG, hR, htr, hlo⟩ := hX
  intro H locs ls hP hD hS hl
  exact lv_dcmp hx hb d (kk H locs ls hP hD hS hl)
theorem z_dup (hX : ZOk G X nL cc own Ts R0) {v : Value} (hv : v.category = 1) (d : decode cc pc = .ok (.dup, 1)) (kk : Z G X nL k n WS (pc + 1) loc (v :: v :: st)) : Z G X nL k n WS pc loc (v :: st) := by
  obtain ⟨p, l, e, R, s, m, args, below, meth, c, Q, A⟩ := X
  obtain ⟨hx, hb, hml, hown, hts, hK, hA, hG, hR, htr, hlo⟩ := hX
  intro H locs ls hP hD hS hl
  exact lv_dup hx hb d hv (kk H locs ls hP hD hS hl)
theorem z_pop (hX : ZOk G X nL cc own Ts R0) {v : Value} (hv : v.category = 1) (d : decode cc pc = .ok (.pop, 1)) (kk : Z G X nL k n WS (pc + 1) loc (st)) : Z G X nL k n WS pc loc (v :: st) := by
  obtain ⟨p, l, e, R, s, m, args, below, meth, c, Q, A⟩ := X
  obtain ⟨hx, hb, hml, hown, hts, hK, hA, hG, hR, htr, hlo⟩ := hX
  intro H locs ls hP hD hS hl
  exact lv_pop hx hb d hv (kk H locs ls hP hD hS hl)
theorem z_dup_x1 (hX : ZOk G X nL cc own Ts R0) {v w : Value} (hv : v.category = 1) (hw : w.category = 1) (d : decode cc pc = .ok (.dup_x1, 1)) (kk : Z G X nL k n WS (pc + 1) loc (v :: w :: v :: st)) : Z G X nL k n WS pc loc (v :: w :: st) := by
  obtain ⟨p, l, e, R, s, m, args, below, meth, c, Q, A⟩ := X
  obtain ⟨hx, hb, hml, hown, hts, hK, hA, hG, hR, htr, hlo⟩ := hX
  intro H locs ls hP hD hS hl
  exact lv_dup_x1 hx hb d hv hw (kk H locs ls hP hD hS hl)
theorem z_dup2 (hX : ZOk G X nL cc own Ts R0) {v w : Value} (hv : v.category = 1) (hw : w.category = 1) (d : decode cc pc = .ok (.dup2, 1)) (kk : Z G X nL k n WS (pc + 1) loc (v :: w :: v :: w :: st)) : Z G X nL k n WS pc loc (v :: w :: st) := by
  obtain ⟨p, l, e, R, s, m, args, below, meth, c, Q, A⟩ := X
  obtain ⟨hx, hb, hml, hown, hts, hK, hA, hG, hR, htr, hlo⟩ := hX
  intro H locs ls hP hD hS hl
  exact lv_dup2_11 hx hb d hv hw (kk H locs ls hP hD hS hl)
theorem z_dup_x2 (hX : ZOk G X nL cc own Ts R0) {v w u : Value} (hv : v.category = 1) (hw : w.category = 1) (hu : u.category = 1) (d : decode cc pc = .ok (.dup_x2, 1)) (kk : Z G X nL k n WS (pc + 1) loc (v :: w :: u :: v :: st)) : Z G X nL k n WS pc loc (v :: w :: u :: st) := by
  obtain ⟨p, l, e, R, s, m, args, below, meth, c, Q, A⟩ := X
  obtain ⟨hx, hb, hml, hown, hts, hK, hA, hG, hR, htr, hlo⟩ := hX
  intro H locs ls hP hD hS hl
  exact lv_dup_x2 hx hb d hv hw hu (kk H locs ls hP hD hS hl)
theorem z_icmp_eq (hX : ZOk G X nL cc own Ts R0) {a b : Int} {off : Int} {tgt : Nat} (ht : (pc : Int) + off = (tgt : Int)) (ha : -2147483648 ≤ a ∧ a < 2147483648) (hbb : -2147483648 ≤ b ∧ b < 2147483648) (d : decode cc pc = .ok (.if_icmp .eq off, 3)) (kt : a = b → Z G X nL k n WS tgt loc st) (kf : ¬ a = b → Z G X nL k n WS (pc + 3) loc st) : Z G X nL k n WS pc loc (.int (iI b) :: .int (iI a) :: st) := by
  obtain ⟨p, l, e, R, s, m, args, below, meth, c, Q, A⟩ := X
  obtain ⟨hx, hb, hml, hown, hts, hK, hA, hG, hR, htr, hlo⟩ := hX
  intro H locs ls hP hD hS hl
  exact lv_icmp_eq hx hb d ht (fun h => kt ((iI_eq ha hbb).mp h) H locs ls hP hD hS hl) (fun h => kf (fun e => h (by rw [e])) H locs ls hP hD hS hl)
theorem z_if_eq (hX : ZOk G X nL cc own Ts R0) {a : Int} {off : Int} {tgt : Nat} (ht : (pc : Int) + off = (tgt : Int)) (ha : -2147483648 ≤ a ∧ a < 2147483648) (d : decode cc pc = .ok (.ifCond .eq off, 3)) (kt : a = 0 → Z G X nL k n WS tgt loc st) (kf : ¬ a = 0 → Z G X nL k n WS (pc + 3) loc st) : Z G X nL k n WS pc loc (.int (iI a) :: st) := by
  obtain ⟨p, l, e, R, s, m, args, below, meth, c, Q, A⟩ := X
  obtain ⟨hx, hb, hml, hown, hts, hK, hA, hG, hR, htr, hlo⟩ := hX
  intro H locs ls hP hD hS hl
  have hbb : -2147483648 ≤ (0 : Int) ∧ (0 : Int) < 2147483648 := by omega
  exact lv_if_eq hx hb d ht (fun h => kt ((iI_eq ha hbb).mp (h.trans iI_0)) H locs ls hP hD hS hl) (fun h => kf (fun e => h (by rw [e, iI_0])) H locs ls hP hD hS hl)
theorem z_icmp_ne (hX : ZOk G X nL cc own Ts R0) {a b : Int} {off : Int} {tgt : Nat} (ht : (pc : Int) + off = (tgt : Int)) (ha : -2147483648 ≤ a ∧ a < 2147483648) (hbb : -2147483648 ≤ b ∧ b < 2147483648) (d : decode cc pc = .ok (.if_icmp .ne off, 3)) (kt : ¬ a = b → Z G X nL k n WS tgt loc st) (kf : a = b → Z G X nL k n WS (pc + 3) loc st) : Z G X nL k n WS pc loc (.int (iI b) :: .int (iI a) :: st) := by
  obtain ⟨p, l, e, R, s, m, args, below, meth, c, Q, A⟩ := X
  obtain ⟨hx, hb, hml, hown, hts, hK, hA, hG, hR, htr, hlo⟩ := hX
  intro H locs ls hP hD hS hl
  exact lv_icmp_ne hx hb d ht (fun h => kt (fun e => h (by rw [e])) H locs ls hP hD hS hl) (fun h => kf ((iI_eq ha hbb).mp h) H locs ls hP hD hS hl)
theorem z_if_ne (hX : ZOk G X nL cc own Ts R0) {a : Int} {off : Int} {tgt : Nat} (ht : (pc : Int) + off = (tgt : Int)) (ha : -2147483648 ≤ a ∧ a < 2147483648) (d : decode cc pc = .ok (.ifCond .ne off, 3)) (kt : ¬ a = 0 → Z G X nL k n WS tgt loc st) (kf : a = 0 → Z G X nL k n WS (pc + 3) loc st) : Z G X nL k n WS pc loc (.int (iI a) :: st) := by
  obtain ⟨p, l, e, R, s, m, args, below, meth, c, Q, A⟩ := X
  obtain ⟨hx, hb, hml, hown, hts, hK, hA, hG, hR, htr, hlo⟩ := hX
  intro H locs ls hP hD hS hl
  have hbb : -2147483648 ≤ (0 : Int) ∧ (0 : Int) < 2147483648 := by omega
  exact lv_if_ne hx hb d ht (fun h => kt (fun e => h (by rw [e, iI_0])) H locs ls hP hD hS hl) (fun h => kf ((iI_eq ha hbb).mp (h.trans iI_0)) H locs ls hP hD hS hl)
theorem z_icmp_lt (hX : ZOk G X nL cc own Ts R0) {a b : Int} {off : Int} {tgt : Nat} (ht : (pc : Int) + off = (tgt : Int)) (ha : -2147483648 ≤ a ∧ a < 2147483648) (hbb : -2147483648 ≤ b ∧ b < 2147483648) (d : decode cc pc = .ok (.if_icmp .lt off, 3)) (kt : a < b → Z G X nL k n WS tgt loc st) (kf : b ≤ a → Z G X nL k n WS (pc + 3) loc st) : Z G X nL k n WS pc loc (.int (iI b) :: .int (iI a) :: st) := by
  obtain ⟨p, l, e, R, s, m, args, below, meth, c, Q, A⟩ := X
  obtain ⟨hx, hb, hml, hown, hts, hK, hA, hG, hR, htr, hlo⟩ := hX
  intro H locs ls hP hD hS hl
  exact lv_icmp_lt hx hb d ht (fun h => kt ((iI_lt ha hbb).mp h) H locs ls hP hD hS hl) (fun h => kf (Int.not_lt.mp (fun e => h ((iI_lt ha hbb).mpr e))) H locs ls hP hD hS hl)
theorem z_if_lt (hX : ZOk G X nL cc own Ts R0) {a : Int} {off : Int} {tgt : Nat} (ht : (pc : Int) + off = (tgt : Int)) (ha : -2147483648 ≤ a ∧ a < 2147483648) (d : decode cc pc = .ok (.ifCond .lt off, 3)) (kt : a < 0 → Z G X nL k n WS tgt loc st) (kf : 0 ≤ a → Z G X nL k n WS (pc + 3) loc st) : Z G X nL k n WS pc loc (.int (iI a) :: st) := by
  obtain ⟨p, l, e, R, s, m, args, below, meth, c, Q, A⟩ := X
  obtain ⟨hx, hb, hml, hown, hts, hK, hA, hG, hR, htr, hlo⟩ := hX
  intro H locs ls hP hD hS hl
  have hbb : -2147483648 ≤ (0 : Int) ∧ (0 : Int) < 2147483648 := by omega
  exact lv_if_lt hx hb d ht (fun h => kt ((iI_lt ha hbb).mp (by rw [← iI_0]; exact h)) H locs ls hP hD hS hl) (fun h => kf (Int.not_lt.mp (fun e => h (by rw [iI_0]; exact (iI_lt ha hbb).mpr e))) H locs ls hP hD hS hl)
theorem z_icmp_ge (hX : ZOk G X nL cc own Ts R0) {a b : Int} {off : Int} {tgt : Nat} (ht : (pc : Int) + off = (tgt : Int)) (ha : -2147483648 ≤ a ∧ a < 2147483648) (hbb : -2147483648 ≤ b ∧ b < 2147483648) (d : decode cc pc = .ok (.if_icmp .ge off, 3)) (kt : b ≤ a → Z G X nL k n WS tgt loc st) (kf : a < b → Z G X nL k n WS (pc + 3) loc st) : Z G X nL k n WS pc loc (.int (iI b) :: .int (iI a) :: st) := by
  obtain ⟨p, l, e, R, s, m, args, below, meth, c, Q, A⟩ := X
  obtain ⟨hx, hb, hml, hown, hts, hK, hA, hG, hR, htr, hlo⟩ := hX
  intro H locs ls hP hD hS hl
  exact lv_icmp_ge hx hb d ht (fun h => kt ((iI_le hbb ha).mp h) H locs ls hP hD hS hl) (fun h => kf (Int.not_le.mp (fun e => h ((iI_le hbb ha).mpr e))) H locs ls hP hD hS hl)
theorem z_if_ge (hX : ZOk G X nL cc own Ts R0) {a : Int} {off : Int} {tgt : Nat} (ht : (pc : Int) + off = (tgt : Int)) (ha : -2147483648 ≤ a ∧ a < 2147483648) (d : decode cc pc = .ok (.ifCond .ge off, 3)) (kt : 0 ≤ a → Z G X nL k n WS tgt loc st) (kf : a < 0 → Z G X nL k n WS (pc + 3) loc st) : Z G X nL k n WS pc loc (.int (iI a) :: st) := by
  obtain ⟨p, l, e, R, s, m, args, below, meth, c, Q, A⟩ := X
  obtain ⟨hx, hb, hml, hown, hts, hK, hA, hG, hR, htr, hlo⟩ := hX
  intro H locs ls hP hD hS hl
  have hbb : -2147483648 ≤ (0 : Int) ∧ (0 : Int) < 2147483648 := by omega
  exact lv_if_ge hx hb d ht (fun h => kt ((iI_le hbb ha).mp (by rw [← iI_0]; exact h)) H locs ls hP hD hS hl) (fun h => kf (Int.not_le.mp (fun e => h (by rw [iI_0]; exact (iI_le hbb ha).mpr e))) H locs ls hP hD hS hl)
theorem z_icmp_gt (hX : ZOk G X nL cc own Ts R0) {a b : Int} {off : Int} {tgt : Nat} (ht : (pc : Int) + off = (tgt : Int)) (ha : -2147483648 ≤ a ∧ a < 2147483648) (hbb : -2147483648 ≤ b ∧ b < 2147483648) (d : decode cc pc = .ok (.if_icmp .gt off, 3)) (kt : b < a → Z G X nL k n WS tgt loc st) (kf : a ≤ b → Z G X nL k n WS (pc + 3) loc st) : Z G X nL k n WS pc loc (.int (iI b) :: .int (iI a) :: st) := by
  obtain ⟨p, l, e, R, s, m, args, below, meth, c, Q, A⟩ := X
  obtain ⟨hx, hb, hml, hown, hts, hK, hA, hG, hR, htr, hlo⟩ := hX
  intro H locs ls hP hD hS hl
  exact lv_icmp_gt hx hb d ht (fun h => kt ((iI_lt hbb ha).mp h) H locs ls hP hD hS hl) (fun h => kf (Int.not_lt.mp (fun e => h ((iI_lt hbb ha).mpr e))) H locs ls hP hD hS hl)
theorem z_if_gt (hX : ZOk G X nL cc own Ts R0) {a : Int} {off : Int} {tgt : Nat} (ht : (pc : Int) + off = (tgt : Int)) (ha : -2147483648 ≤ a ∧ a < 2147483648) (d : decode cc pc = .ok (.ifCond .gt off, 3)) (kt : 0 < a → Z G X nL k n WS tgt loc st) (kf : a ≤ 0 → Z G X nL k n WS (pc + 3) loc st) : Z G X nL k n WS pc loc (.int (iI a) :: st) := by
  obtain ⟨p, l, e, R, s, m, args, below, meth, c, Q, A⟩ := X
  obtain ⟨hx, hb, hml, hown, hts, hK, hA, hG, hR, htr, hlo⟩ := hX
  intro H locs ls hP hD hS hl
  have hbb : -2147483648 ≤ (0 : Int) ∧ (0 : Int) < 2147483648 := by omega
  exact lv_if_gt hx hb d ht (fun h => kt ((iI_lt hbb ha).mp (by rw [← iI_0]; exact h)) H locs ls hP hD hS hl) (fun h => kf (Int.not_lt.mp (fun e => h (by rw [iI_0]; exact (iI_lt hbb ha).mpr e))) H locs ls hP hD hS hl)
theorem z_icmp_le (hX : ZOk G X nL cc own Ts R0) {a b : Int} {off : Int} {tgt : Nat} (ht : (pc : Int) + off = (tgt : Int)) (ha : -2147483648 ≤ a ∧ a < 2147483648) (hbb : -2147483648 ≤ b ∧ b < 2147483648) (d : decode cc pc = .ok (.if_icmp .le off, 3)) (kt : a ≤ b → Z G X nL k n WS tgt loc st) (kf : b < a → Z G X nL k n WS (pc + 3) loc st) : Z G X nL k n WS pc loc (.int (iI b) :: .int (iI a) :: st) := by
  obtain ⟨p, l, e, R, s, m, args, below, meth, c, Q, A⟩ := X
  obtain ⟨hx, hb, hml, hown, hts, hK, hA, hG, hR, htr, hlo⟩ := hX
  intro H locs ls hP hD hS hl
  exact lv_icmp_le hx hb d ht (fun h => kt ((iI_le ha hbb).mp h) H locs ls hP hD hS hl) (fun h => kf (Int.not_le.mp (fun e => h ((iI_le ha hbb).mpr e))) H locs ls hP hD hS hl)
theorem z_if_le (hX : ZOk G X nL cc own Ts R0) {a : Int} {off : Int} {tgt : Nat} (ht : (pc : Int) + off = (tgt : Int)) (ha : -2147483648 ≤ a ∧ a < 2147483648) (d : decode cc pc = .ok (.ifCond .le off, 3)) (kt : a ≤ 0 → Z G X nL k n WS tgt loc st) (kf : 0 < a → Z G X nL k n WS (pc + 3) loc st) : Z G X nL k n WS pc loc (.int (iI a) :: st) := by
  obtain ⟨p, l, e, R, s, m, args, below, meth, c, Q, A⟩ := X
  obtain ⟨hx, hb, hml, hown, hts, hK, hA, hG, hR, htr, hlo⟩ := hX
  intro H locs ls hP hD hS hl
  have hbb : -2147483648 ≤ (0 : Int) ∧ (0 : Int) < 2147483648 := by omega
  exact lv_if_le hx hb d ht (fun h => kt ((iI_le ha hbb).mp (by rw [← iI_0]; exact h)) H locs ls hP hD hS hl) (fun h => kf (Int.not_le.mp (fun e => h (by rw [iI_0]; exact (iI_le ha hbb).mpr e))) H locs ls hP hD hS hl)
theorem z_bif_eq (hX : ZOk G X nL cc own Ts R0) {P : Prop} [hdP : Decidable P] {off : Int} {tgt : Nat} (ht : (pc : Int) + off = (tgt : Int)) (d : decode cc pc = .ok (.ifCond .eq off, 3)) (kt : ¬ P → Z G X nL k n WS tgt loc st) (kf : P → Z G X nL k n WS (pc + 3) loc st) : Z G X nL k n WS pc loc (.int (iI (bI P)) :: st) := by
  obtain ⟨p, l, e, R, s, m, args, below, meth, c, Q, A⟩ := X
  obtain ⟨hx, hb, hml, hown, hts, hK, hA, hG, hR, htr, hlo⟩ := hX
  intro H locs ls hP hD hS hl
  exact lv_if_eq hx hb d ht (fun h => kt (bI_z.mp h) H locs ls hP hD hS hl) (fun h => kf (bI_nz.mp h) H locs ls hP hD hS hl)
theorem z_bif_ne (hX : ZOk G X nL cc own Ts R0) {P : Prop} [hdP : Decidable P] {off : Int} {tgt : Nat} (ht : (pc : Int) + off = (tgt : Int)) (d : decode cc pc = .ok (.ifCond .ne off, 3)) (kt : P → Z G X nL k n WS tgt loc st) (kf : ¬ P → Z G X nL k n WS (pc + 3) loc st) : Z G X nL k n WS pc loc (.int (iI (bI P)) :: st) := by
  obtain ⟨p, l, e, R, s, m, args, below, meth, c, Q, A⟩ := X
  obtain ⟨hx, hb, hml, hown, hts, hK, hA, hG, hR, htr, hlo⟩ := hX
  intro H locs ls hP hD hS hl
  exact lv_if_ne hx hb d ht (fun h => kt (bI_nz.mp h) H locs ls hP hD hS hl) (fun h => kf (bI_z.mp h) H locs ls hP hD hS hl)
theorem z_goto (hX : ZOk G X nL cc own Ts R0) {off : Int} {tgt : Nat} (ht : (pc : Int) + off = (tgt : Int)) (d : decode cc pc = .ok (.goto off, 3)) (kk : Z G X nL k n WS tgt loc st) : Z G X nL k n WS pc loc st := by
  obtain ⟨p, l, e, R, s, m, args, below, meth, c, Q, A⟩ := X
  obtain ⟨hx, hb, hml, hown, hts, hK, hA, hG, hR, htr, hlo⟩ := hX
  intro H locs ls hP hD hS hl
  exact lv_goto hx hb d ht (kk H locs ls hP hD hS hl)
theorem z_ifnull (hX : ZOk G X nL cc own Ts R0) {x : Nat} {off : Int} (d : decode cc pc = .ok (.ifnull off, 3)) (kk : Z G X nL k n WS (pc + 3) loc st) : Z G X nL k n WS pc loc (.ref x :: st) := by
  obtain ⟨p, l, e, R, s, m, args, below, meth, c, Q, A⟩ := X
  obtain ⟨hx, hb, hml, hown, hts, hK, hA, hG, hR, htr, hlo⟩ := hX
  intro H locs ls hP hD hS hl
  exact lv_ifnull hx hb d (kk H locs ls hP hD hS hl)
theorem z_tblIn (hX : ZOk G X nL cc own Ts R0) {z dflt lo hi off : Int} {offs : Array Int} {len tgt : Nat} (hz : -2147483648 ≤ z ∧ z < 2147483648) (h : lo ≤ z ∧ z ≤ hi) (ho : offs[(z - lo).toNat]? = some off) (ht : (pc : Int) + off = (tgt : Int)) (d : decode cc pc = .ok (.tableswitch dflt lo hi offs, len)) (kk : Z G X nL k n WS tgt loc st) : Z G X nL k n WS pc loc (.int (iI z) :: st) := by
  obtain ⟨p, l, e, R, s, m, args, below, meth, c, Q, A⟩ := X
  obtain ⟨hx, hb, hml, hown, hts, hK, hA, hG, hR, htr, hlo⟩ := hX
  intro H locs ls hP hD hS hl
  exact lv_tableIn hx hb d (by rw [iI_toInt hz]; omega) (by rw [iI_toInt hz]; omega) (by rw [iI_toInt hz]; exact ho) ht (kk H locs ls hP hD hS hl)
theorem z_tblOut (hX : ZOk G X nL cc own Ts R0) {z dflt lo hi : Int} {offs : Array Int} {len tgt : Nat} (hz : -2147483648 ≤ z ∧ z < 2147483648) (h : z < lo ∨ hi < z) (ht : (pc : Int) + dflt = (tgt : Int)) (d : decode cc pc = .ok (.tableswitch dflt lo hi offs, len)) (kk : Z G X nL k n WS tgt loc st) : Z G X nL k n WS pc loc (.int (iI z) :: st) := by
  obtain ⟨p, l, e, R, s, m, args, below, meth, c, Q, A⟩ := X
  obtain ⟨hx, hb, hml, hown, hts, hK, hA, hG, hR, htr, hlo⟩ := hX
  intro H locs ls hP hD hS hl
  exact lv_tableOut hx hb d (by rw [iI_toInt hz]; exact h) ht (kk H locs ls hP hD hS hl)
theorem z_lookup (hX : ZOk G X nL cc own Ts R0) {z dflt off : Int} {ps : Array (Int × Int)} {len tgt : Nat} (hz : -2147483648 ≤ z ∧ z < 2147483648) (hp : (ps.toList.zip (ps.toList.drop 1)).all (fun (a, next) => a.1 < next.1) = true) (ho : Op.lookupswitch.offset ps.toList dflt z = off) (ht : (pc : Int) + off = (tgt : Int)) (d : decode cc pc = .ok (.lookupswitch dflt ps, len)) (kk : Z G X nL k n WS tgt loc st) : Z G X nL k n WS pc loc (.int (iI z) :: st) := by
  obtain ⟨p, l, e, R, s, m, args, below, meth, c, Q, A⟩ := X
  obtain ⟨hx, hb, hml, hown, hts, hK, hA, hG, hR, htr, hlo⟩ := hX
  intro H locs ls hP hD hS hl
  exact lv_lookup hx hb d hp (by rw [iI_toInt hz]; exact ho) ht (kk H locs ls hP hD hS hl)
theorem z_at {loc' : List (Nat × Value)} {WS' : va_W} (pl pw : List Nat) (hl0 : lv_pick loc pl = loc') (hn : va_nd pw = true) (hw : pw.map (fun i => WS[i]?) = WS'.map some) (kk : Z G X nL k n WS' pc loc' st) : Z G X nL k n WS pc loc st := by
  obtain ⟨p, l, e, R, s, m, args, below, meth, c, Q, A⟩ := X
  intro H locs ls hP hD hS hl
  exact kk H locs ls (hP.sub pw (z_fm _ _ _ hw)) (hD.sub pw hn hw) hS (lv_sub hl pl hl0)
theorem z_widen {k' n' : Nat} (h1 : k ≤ k') (h2 : n ≤ n') (kk : Z G X nL k' n' WS pc loc st) : Z G X nL k n WS pc loc st := by
  obtain ⟨p, l, e, R, s, m, args, below, meth, c, Q, A⟩ := X
  intro H locs ls hP hD hS hl
  exact W.widen h1 h2 (kk H locs ls hP hD hS hl)
theorem z_get (hX : ZOk G X nL cc own Ts R0) {ref C name desc : String} {T : u_T} {N ci i a : Nat} {fs : List Value} {v : Value} (hin : ∀ w ∈ u_ws C T N, w ∈ Ts) (q0 : Nat) (he : WS[q0]? = some (a, .inr (ci, fs))) (hc : vwCl[ci]? = some (C, T, N)) (f : Nat) (hf : f < N) (hlink : Cond.fieldLink own i ref name desc ∈ Ts) (hsame : (T f).1 = ref ∧ (T f).2.1 = name ∧ (T f).2.2.1 = desc) (hv : fs[f]? = some v) (d : decode cc pc = .ok (.getfield i, 3)) (kk : Z G X nL k n WS (pc + 3) loc (v :: st)) : Z G X nL k n WS pc loc (.ref a :: st) := by
  obtain ⟨p, l, e, R, s, m, args, below, meth, c, Q, A⟩ := X
  obtain ⟨hx, hb, hml, hown, hts, hK, hA, hG, hR, htr, hlo⟩ := hX
  intro H locs ls hP hD hS hl
  obtain ⟨rfl, rfl, rfl⟩ := hsame
  exact va_get (D := G.1) (ci := ci) (v := v) (C := C) (T := T) (N := N) hx hb hts hin hown hK hP q0 he hc f hf (hts _ hlink) (fun _ h9 => h9) hv d (kk H locs ls hP hD hS hl)
theorem z_getN (hX : ZOk G X nL cc own Ts R0) {ref C name desc : String} {T : u_T} {N ci i a : Nat} {fs : List Value} {v : Value} (hin : ∀ w ∈ u_ws C T N, w ∈ Ts) (q0 : Nat) (he : WS[q0]? = some (a, .inr (ci, fs))) (hc : vwCl[ci]? = some (C, T, N)) (f : Nat) (hf : f < N) (hlink : Cond.fieldLinkNest own i ref name desc RX5 ∈ zNest) (hsame : (T f).1 = ref ∧ (T f).2.1 = name ∧ (T f).2.2.1 = desc) (hv : fs[f]? = some v) (d : decode cc pc = .ok (.getfield i, 3)) (kk : Z G X nL k n WS (pc + 3) loc (v :: st)) : Z G X nL k n WS pc loc (.ref a :: st) := by
  obtain ⟨p, l, e, R, s, m, args, below, meth, c, Q, A⟩ := X
  obtain ⟨hx, hb, hml, hown, hts, hK, hA, hG, hR, htr, hlo⟩ := hX
  intro H locs ls hP hD hS hl
  obtain ⟨rfl, rfl, rfl⟩ := hsame
  exact va_getN (D := G.1) (ci := ci) (v := v) (C := C) (T := T) (N := N) hx hb hts hin hown hK hP q0 he hc f hf (va_Nw.use rfl (hG.1 _ hlink)) (fun _ h9 => h9) hv d (kk H locs ls hP hD hS hl)
theorem z_put (hX : ZOk G X nL cc own Ts R0) {ref C name desc : String} {T : u_T} {N ci i a : Nat} {fs : List Value} {v : Value} {ty : FieldType} {WS' : va_W} (tys : Nat → FieldType) (htys : ∀ k, k < N → parseFieldDescriptor (T k).2.2.1 = some (tys k)) (hnm : ∀ a, a < N → ∀ b, b < N → a ≠ b → (T a).2.1 ≠ (T b).2.1) (hin : ∀ w ∈ u_ws C T N, w ∈ Ts) (q0 : Nat) (he : WS[q0]? = some (a, .inr (ci, fs))) (hc : vwCl[ci]? = some (C, T, N)) (f : Nat) (hf : f < N) (hlink : Cond.fieldLink own i ref name desc ∈ Ts) (hsame : (T f).1 = ref ∧ (T f).2.1 = name ∧ (T f).2.2.1 = desc) (hfin : (T f).2.2.2 = false) (hd : parseFieldDescriptor (T f).2.2.1 = some ty) (hnr : narrow ty v = v) (hfit : fits ty v = true) (hfl : f < fs.length) (hw : WS.set q0 (a, .inr (ci, fs.set f v)) = WS') (d : decode cc pc = .ok (.putfield i, 3)) (kk : Z G X nL k n WS' (pc + 3) loc st) : Z G X nL k n WS pc loc (v :: .ref a :: st) := by
  obtain ⟨p, l, e, R, s, m, args, below, meth, c, Q, A⟩ := X
  obtain ⟨hx, hb, hml, hown, hts, hK, hA, hG, hR, htr, hlo⟩ := hX
  intro H locs ls hP hD hS hl
  obtain ⟨rfl, rfl, rfl⟩ := hsame
  subst hw
  exact va_put (D := G.1) (ci := ci) (v := v) (ty := ty) (C := C) (T := T) (N := N) hx hb hts hin tys htys hnm hown hK hP hD hS q0 he hc f hf (hts _ hlink) (fun _ h9 => h9) hfin hd hnr hfit hfl d (fun H1 locs1 hP1 hD1 hS1 => kk H1 locs1 ls hP1 hD1 hS1 hl)
theorem z_putN (hX : ZOk G X nL cc own Ts R0) {ref C name desc : String} {T : u_T} {N ci i a : Nat} {fs : List Value} {v : Value} {ty : FieldType} {WS' : va_W} (tys : Nat → FieldType) (htys : ∀ k, k < N → parseFieldDescriptor (T k).2.2.1 = some (tys k)) (hnm : ∀ a, a < N → ∀ b, b < N → a ≠ b → (T a).2.1 ≠ (T b).2.1) (hin : ∀ w ∈ u_ws C T N, w ∈ Ts) (q0 : Nat) (he : WS[q0]? = some (a, .inr (ci, fs))) (hc : vwCl[ci]? = some (C, T, N)) (f : Nat) (hf : f < N) (hlink : Cond.fieldLinkNest own i ref name desc RX5 ∈ zNest) (hsame : (T f).1 = ref ∧ (T f).2.1 = name ∧ (T f).2.2.1 = desc) (hfin : (T f).2.2.2 = false) (hd : parseFieldDescriptor (T f).2.2.1 = some ty) (hnr : narrow ty v = v) (hfit : fits ty v = true) (hfl : f < fs.length) (hw : WS.set q0 (a, .inr (ci, fs.set f v)) = WS') (d : decode cc pc = .ok (.putfield i, 3)) (kk : Z G X nL k n WS' (pc + 3) loc st) : Z G X nL k n WS pc loc (v :: .ref a :: st) := by
  obtain ⟨p, l, e, R, s, m, args, below, meth, c, Q, A⟩ := X
  obtain ⟨hx, hb, hml, hown, hts, hK, hA, hG, hR, htr, hlo⟩ := hX
  intro H locs ls hP hD hS hl
  obtain ⟨rfl, rfl, rfl⟩ := hsame
  subst hw
  exact va_putN (D := G.1) (ci := ci) (v := v) (ty := ty) (C := C) (T := T) (N := N) hx hb hts hin tys htys hnm hown hK hP hD hS q0 he hc f hf (va_Nw.use rfl (hG.1 _ hlink)) (fun _ h9 => h9) hfin hd hnr hfit hfl d (fun H1 locs1 hP1 hD1 hS1 => kk H1 locs1 ls hP1 hD1 hS1 hl)
theorem z_iald (hX : ZOk G X nL cc own Ts R0) {a N : Nat} {F : Int → Int} {j : Int} (q0 : Nat) (he : WS[q0]? = some (a, zI G N F)) (hN : N < 2147483648) (hj : 0 ≤ j ∧ j < (N : Int)) (d : decode cc pc = .ok (.iaload, 1)) (kk : Z G X nL k n WS (pc + 1) loc (.int (iI (F j)) :: st)) : Z G X nL k n WS pc loc (.int (iI j) :: .ref a :: st) := by
  obtain ⟨p, l, e, R, s, m, args, below, meth, c, Q, A⟩ := X
  obtain ⟨hx, hb, hml, hown, hts, hK, hA, hG, hR, htr, hlo⟩ := hX
  intro H locs ls hP hD hS hl
  refine va_iald (D := G.1) hx hb hK hP q0 0 (cA := G.2.1) (n := N) (f := aI F) he rfl (iI_in hj (by omega)) d ?_
  rw [iI_cl (by omega), aI_at hj.1]
  exact kk H locs ls hP hD hS hl
theorem z_iast (hX : ZOk G X nL cc own Ts R0) {a N : Nat} {F : Int → Int} {j v : Int} {WS' : va_W} (q0 : Nat) (he : WS[q0]? = some (a, zI G N F)) (hN : N < 2147483648) (hj : 0 ≤ j ∧ j < (N : Int)) (hw : WS.set q0 (a, zI G N (uZ F j v)) = WS') (d : decode cc pc = .ok (.iastore, 1)) (kk : Z G X nL k n WS' (pc + 1) loc st) : Z G X nL k n WS pc loc (.int (iI v) :: .int (iI j) :: .ref a :: st) := by
  obtain ⟨p, l, e, R, s, m, args, below, meth, c, Q, A⟩ := X
  obtain ⟨hx, hb, hml, hown, hts, hK, hA, hG, hR, htr, hlo⟩ := hX
  intro H locs ls hP hD hS hl
  subst hw
  have e : upd (aI F) (iI j).toNatClampNeg (iI v) = aI (uZ F j v) := by rw [iI_cl (by omega), aI_upd hj.1]
  refine va_iast (D := G.1) hx hb hK hP hD hS q0 0 (cA := G.2.1) (n := N) (f := aI F) he rfl (iI_in hj (by omega)) d (fun H1 locs1 hP1 hD1 hS1 => ?_)
  rw [e] at hP1 hD1
  exact kk H1 locs1 ls hP1 hD1 hS1 hl
theorem z_alen (hX : ZOk G X nL cc own Ts R0) {a N : Nat} {F : Int → Int} {z : Int} (q0 : Nat) (he : WS[q0]? = some (a, zI G N F)) (hz : (N : Int) = z) (d : decode cc pc = .ok (.arraylength, 1)) (kk : Z G X nL k n WS (pc + 1) loc (.int (iI z) :: st)) : Z G X nL k n WS pc loc (.ref a :: st) := by
  obtain ⟨p, l, e, R, s, m, args, below, meth, c, Q, A⟩ := X
  obtain ⟨hx, hb, hml, hown, hts, hK, hA, hG, hR, htr, hlo⟩ := hX
  intro H locs ls hP hD hS hl
  subst hz
  exact va_alen (D := G.1) hx hb hK hP q0 0 (cA := G.2.1) he rfl (iI_nat N) d (kk H locs ls hP hD hS hl)
theorem z_ialdF (hX : ZOk G X nL cc own Ts R0) {j : Int} (hj : 0 ≤ j ∧ j < 6) (d : decode cc pc = .ok (.iaload, 1)) (kk : Z G X nL k n WS (pc + 1) loc (.int (iI (zFs j)) :: st)) : Z G X nL k n WS pc loc (.int (iI j) :: .ref G.2.2.2.2.1 :: st) := by
  obtain ⟨p, l, e, R, s, m, args, below, meth, c, Q, A⟩ := X
  obtain ⟨hx, hb, hml, hown, hts, hK, hA, hG, hR, htr, hlo⟩ := hX
  intro H locs ls hP hD hS hl
  exact va_ti hx hb (hG.2.1).2 hS (iI_in (n := 6) (by omega) (by omega)) (by show Value.int (aI zFs _) = _; rw [iI_cl (by omega), aI_at hj.1]) d (kk H locs ls hP hD hS hl)
theorem z_alenF (hX : ZOk G X nL cc own Ts R0) (d : decode cc pc = .ok (.arraylength, 1)) (kk : Z G X nL k n WS (pc + 1) loc (.int (iI 6) :: st)) : Z G X nL k n WS pc loc (.ref G.2.2.2.2.1 :: st) := by
  obtain ⟨p, l, e, R, s, m, args, below, meth, c, Q, A⟩ := X
  obtain ⟨hx, hb, hml, hown, hts, hK, hA, hG, hR, htr, hlo⟩ := hX
  intro H locs ls hP hD hS hl
  exact va_tlen hx hb (hG.2.1).2 hS (iI_nat 6) d (kk H locs ls hP hD hS hl)
theorem z_getsF (hX : ZOk G X nL cc own Ts R0) {i : Nat} (hlink : Cond.fieldLink own i RX5 "FIRST_SETTINGS" "[I" ∈ Ts) (d : decode cc pc = .ok (.getstatic i, 3)) (kk : Z G X nL k n WS (pc + 3) loc (.ref G.2.2.2.2.1 :: st)) : Z G X nL k n WS pc loc st := by
  obtain ⟨p, l, e, R, s, m, args, below, meth, c, Q, A⟩ := X
  obtain ⟨hx, hb, hml, hown, hts, hK, hA, hG, hR, htr, hlo⟩ := hX
  intro H locs ls hP hD hS hl
  exact va_gets hx hb (hG.2.1).1 hS hown (hts _ hlink) (fun _ h => h) d (kk H locs ls hP hD hS hl)
theorem z_getsFN (hX : ZOk G X nL cc own Ts R0) {i : Nat} (hlink : Cond.fieldLinkNest own i RX5 "FIRST_SETTINGS" "[I" RX5 ∈ zNest) (d : decode cc pc = .ok (.getstatic i, 3)) (kk : Z G X nL k n WS (pc + 3) loc (.ref G.2.2.2.2.1 :: st)) : Z G X nL k n WS pc loc st := by
  obtain ⟨p, l, e, R, s, m, args, below, meth, c, Q, A⟩ := X
  obtain ⟨hx, hb, hml, hown, hts, hK, hA, hG, hR, htr, hlo⟩ := hX
  intro H locs ls hP hD hS hl
  exact va_getsN hx hb (hG.2.1).1 hS hown (va_Nw.use rfl (hG.1 _ hlink)) (fun _ h => h) d (kk H locs ls hP hD hS hl)
theorem z_ialdL (hX : ZOk G X nL cc own Ts R0) {j : Int} (hj : 0 ≤ j ∧ j < 6) (d : decode cc pc = .ok (.iaload, 1)) (kk : Z G X nL k n WS (pc + 1) loc (.int (iI (zLs j)) :: st)) : Z G X nL k n WS pc loc (.int (iI j) :: .ref G.2.2.2.2.2.1 :: st) := by
  obtain ⟨p, l, e, R, s, m, args, below, meth, c, Q, A⟩ := X
  obtain ⟨hx, hb, hml, hown, hts, hK, hA, hG, hR, htr, hlo⟩ := hX
  intro H locs ls hP hD hS hl
  exact va_ti hx hb (hG.2.2.1).2 hS (iI_in (n := 6) (by omega) (by omega)) (by show Value.int (aI zLs _) = _; rw [iI_cl (by omega), aI_at hj.1]) d (kk H locs ls hP hD hS hl)
theorem z_alenL (hX : ZOk G X nL cc own Ts R0) (d : decode cc pc = .ok (.arraylength, 1)) (kk : Z G X nL k n WS (pc + 1) loc (.int (iI 6) :: st)) : Z G X nL k n WS pc loc (.ref G.2.2.2.2.2.1 :: st) := by
  obtain ⟨p, l, e, R, s, m, args, below, meth, c, Q, A⟩ := X
  obtain ⟨hx, hb, hml, hown, hts, hK, hA, hG, hR, htr, hlo⟩ := hX
  intro H locs ls hP hD hS hl
  exact va_tlen hx hb (hG.2.2.1).2 hS (iI_nat 6) d (kk H locs ls hP hD hS hl)
theorem z_getsL (hX : ZOk G X nL cc own Ts R0) {i : Nat} (hlink : Cond.fieldLink own i RX5 "LEAST_SETTINGS" "[I" ∈ Ts) (d : decode cc pc = .ok (.getstatic i, 3)) (kk : Z G X nL k n WS (pc + 3) loc (.ref G.2.2.2.2.2.1 :: st)) : Z G X nL k n WS pc loc st := by
  obtain ⟨p, l, e, R, s, m, args, below, meth, c, Q, A⟩ := X
  obtain ⟨hx, hb, hml, hown, hts, hK, hA, hG, hR, htr, hlo⟩ := hX
  intro H locs ls hP hD hS hl
  exact va_gets hx hb (hG.2.2.1).1 hS hown (hts _ hlink) (fun _ h => h) d (kk H locs ls hP hD hS hl)
theorem z_getsLN (hX : ZOk G X nL cc own Ts R0) {i : Nat} (hlink : Cond.fieldLinkNest own i RX5 "LEAST_SETTINGS" "[I" RX5 ∈ zNest) (d : decode cc pc = .ok (.getstatic i, 3)) (kk : Z G X nL k n WS (pc + 3) loc (.ref G.2.2.2.2.2.1 :: st)) : Z G X nL k n WS pc loc st := by
  obtain ⟨p, l, e, R, s, m, args, below, meth, c, Q, A⟩ := X
  obtain ⟨hx, hb, hml, hown, hts, hK, hA, hG, hR, htr, hlo⟩ := hX
  intro H locs ls hP hD hS hl
  exact va_getsN hx hb (hG.2.2.1).1 hS hown (va_Nw.use rfl (hG.1 _ hlink)) (fun _ h => h) d (kk H locs ls hP hD hS hl)
theorem z_ialdM (hX : ZOk G X nL cc own Ts R0) {j : Int} (hj : 0 ≤ j ∧ j < 6) (d : decode cc pc = .ok (.iaload, 1)) (kk : Z G X nL k n WS (pc + 1) loc (.int (iI (zMs j)) :: st)) : Z G X nL k n WS pc loc (.int (iI j) :: .ref G.2.2.2.2.2.2.1 :: st) := by
  obtain ⟨p, l, e, R, s, m, args, below, meth, c, Q, A⟩ := X
  obtain ⟨hx, hb, hml, hown, hts, hK, hA, hG, hR, htr, hlo⟩ := hX
  intro H locs ls hP hD hS hl
  exact va_ti hx hb (hG.2.2.2.1).2 hS (iI_in (n := 6) (by omega) (by omega)) (by show Value.int (aI zMs _) = _; rw [iI_cl (by omega), aI_at hj.1]) d (kk H locs ls hP hD hS hl)
theorem z_alenM (hX : ZOk G X nL cc own Ts R0) (d : decode cc pc = .ok (.arraylength, 1)) (kk : Z G X nL k n WS (pc + 1) loc (.int (iI 6) :: st)) : Z G X nL k n WS pc loc (.ref G.2.2.2.2.2.2.1 :: st) := by
  obtain ⟨p, l, e, R, s, m, args, below, meth, c, Q, A⟩ := X
  obtain ⟨hx, hb, hml, hown, hts, hK, hA, hG, hR, htr, hlo⟩ := hX
  intro H locs ls hP hD hS hl
  exact va_tlen hx hb (hG.2.2.2.1).2 hS (iI_nat 6) d (kk H locs ls hP hD hS hl)
theorem z_getsM (hX : ZOk G X nL cc own Ts R0) {i : Nat} (hlink : Cond.fieldLink own i RX5 "MOST_SETTINGS" "[I" ∈ Ts) (d : decode cc pc = .ok (.getstatic i, 3)) (kk : Z G X nL k n WS (pc + 3) loc (.ref G.2.2.2.2.2.2.1 :: st)) : Z G X nL k n WS pc loc st := by
  obtain ⟨p, l, e, R, s, m, args, below, meth, c, Q, A⟩ := X
  obtain ⟨hx, hb, hml, hown, hts, hK, hA, hG, hR, htr, hlo⟩ := hX
  intro H locs ls hP hD hS hl
  exact va_gets hx hb (hG.2.2.2.1).1 hS hown (hts _ hlink) (fun _ h => h) d (kk H locs ls hP hD hS hl)
theorem z_getsMN (hX : ZOk G X nL cc own Ts R0) {i : Nat} (hlink : Cond.fieldLinkNest own i RX5 "MOST_SETTINGS" "[I" RX5 ∈ zNest) (d : decode cc pc = .ok (.getstatic i, 3)) (kk : Z G X nL k n WS (pc + 3) loc (.ref G.2.2.2.2.2.2.1 :: st)) : Z G X nL k n WS pc loc st := by
  obtain ⟨p, l, e, R, s, m, args, below, meth, c, Q, A⟩ := X
  obtain ⟨hx, hb, hml, hown, hts, hK, hA, hG, hR, htr, hlo⟩ := hX
  intro H locs ls hP hD hS hl
  exact va_getsN hx hb (hG.2.2.2.1).1 hS hown (va_Nw.use rfl (hG.1 _ hlink)) (fun _ h => h) d (kk H locs ls hP hD hS hl)
end ZRows
section ZCalls
variable {G : ZG} {X : ZT} {nL k n : Nat} {cc : ByteArray} {own : String} {Ts : List Cond} {R0 : Room} {WS : va_W} {pc : Nat} {loc : List (Nat × Value)} {st : List Value}
variable {idx maxL mc ms : Nat} {y : MethodName} {bytes : ByteArray} {ret : Option FieldType} {ws ws' : List Cond} {rm : Room} {wc wr : va_W} {S : Type} {w1 : S → va_W} {b : Nat} {As rest : List Value}
theorem z_callV_i (hX : ZOk G X nL cc own Ts R0) {post : Int32 → S → Prop} (hM : zMeti y ws rm G (.ref b :: As) wc post w1 mc ms) (hw : ws = Cond.code y bytes maxL ret :: ws') (hrc : rm.cells = mc) (hrs : rm.slots = ms) {C : String} (hGd : GoodIn Ts (wsV own idx C y ws)) (hd : y.cls = C ∧ y.cls ≠ "java/lang/invoke/MethodHandle" ∧ y.cls ≠ "java/lang/invoke/VarHandle" ∧ (parseMethodDescriptor y.desc).map (fun d => d.parameters.length) = some As.length) {T : u_T} {N ci : Nat} {fs : List Value} (q0 : Nat) (hrecv : wc[q0]? = some (b, .inr (ci, fs))) (hcl : vwCl[ci]? = some (C, T, N)) (hR : rm.frames + 1 ≤ R0.frames ∧ 8 + (maxL + 11) + rm.locals ≤ R0.locals)
    (isC isR : List Nat) (hC : isC.map (fun i => WS[i]?) = wc.map some) (hRr : isR.map (fun i => WS[i]?) = wr.map some) (hnC : va_nd isC = true) (hnR : va_nd isR = true) (hdis : ∀ i ∈ isR, i ∉ isC) (hst : As.reverse ++ .ref b :: rest = st) (hrest : (rest.map fun v => v.category).sum ≤ 8) (hcells : k + mc ≤ R0.cells ∧ n + ms ≤ R0.slots) (d : decode cc pc = .ok (.invokevirtual idx, 3))
    (kk : ∀ (r : Int32) (u : S), post r u → Z G X nL (k + mc) (n + ms) (wr ++ w1 u) (pc + 3) loc (.int r :: rest)) : Z G X nL k n WS pc loc st := by
  obtain ⟨p, l, e, R, s, m, args, below, meth, c, Q, A⟩ := X
  obtain ⟨hx, hb, hml, hown, hts, hK, hA, hG, hR', htr, hlo⟩ := hX
  intro H locs ls hP hD hS hl
  subst hst
  subst hR'
  have hPc : va_P G.1 vwCl wc H := hP.sub isC (z_fm _ _ _ hC)
  have hDc := hD.sub (ws' := wc) isC hnC hC
  have hFc := va_free (wc := wc) hD hS hA isC hC
  have hpc : ∀ U : State, U.heap = H → s.WarmedH U.vm → va_Pc (.ref b :: As) (zB G wc H.size) (.ref b :: As).toArray U := fun U hU hW => ⟨rfl, by rw [hU], by rw [hU]; exact hPc, va_K.moved hW.alike hK, hDc.weaken (fun _ _ _ _ => trivial), by rw [hU]; exact zAmb.go hW (fun a h1 h2 => hS.2.1 a h1 h2) hFc hG⟩
  refine va_calli (va_runV (As := As) (rest := rest) (bytes := bytes) (maxL := maxL) (ret := ret) ⟨hx, hb, hml, hown, hts⟩ (hM l H.size htr) (cwV As.length hts hGd hw hrc hrs hd hR) ⟨zB_blind, va_recv hK hPc (ci := ci) (q0 := q0) hcl hrecv, hpc⟩ rfl rfl hl.1 rfl (lv_room hrest) d hcells) hS (fun q _ h => hFc q h) hFc (fun r u t H1 locs1 ht hvm hw1 hB hz1 hk1 hS1 => ?_)
  obtain ⟨hP1, hK1, hD1⟩ := hB
  rw [ht] at hP1
  obtain ⟨hP2, hD2⟩ := va_join (wr := wr) (w1 := w1 u) hP hD isC isR hC hRr hnR hdis hk1 hFc hP1 hD1
  exact kk r u hw1 H1 locs1 ls hP2 hD2 hS1 hl
theorem z_callV_l (hX : ZOk G X nL cc own Ts R0) {post : Int64 → S → Prop} (hM : zMetl y ws rm G (.ref b :: As) wc post w1 mc ms) (hw : ws = Cond.code y bytes maxL ret :: ws') (hrc : rm.cells = mc) (hrs : rm.slots = ms) {C : String} (hGd : GoodIn Ts (wsV own idx C y ws)) (hd : y.cls = C ∧ y.cls ≠ "java/lang/invoke/MethodHandle" ∧ y.cls ≠ "java/lang/invoke/VarHandle" ∧ (parseMethodDescriptor y.desc).map (fun d => d.parameters.length) = some As.length) {T : u_T} {N ci : Nat} {fs : List Value} (q0 : Nat) (hrecv : wc[q0]? = some (b, .inr (ci, fs))) (hcl : vwCl[ci]? = some (C, T, N)) (hR : rm.frames + 1 ≤ R0.frames ∧ 8 + (maxL + 11) + rm.locals ≤ R0.locals)
    (isC isR : List Nat) (hC : isC.map (fun i => WS[i]?) = wc.map some) (hRr : isR.map (fun i => WS[i]?) = wr.map some) (hnC : va_nd isC = true) (hnR : va_nd isR = true) (hdis : ∀ i ∈ isR, i ∉ isC) (hst : As.reverse ++ .ref b :: rest = st) (hrest : (rest.map fun v => v.category).sum ≤ 8) (hcells : k + mc ≤ R0.cells ∧ n + ms ≤ R0.slots) (d : decode cc pc = .ok (.invokevirtual idx, 3))
    (kk : ∀ (r : Int64) (u : S), post r u → Z G X nL (k + mc) (n + ms) (wr ++ w1 u) (pc + 3) loc (.long r :: rest)) : Z G X nL k n WS pc loc st := by
  obtain ⟨p, l, e, R, s, m, args, below, meth, c, Q, A⟩ := X
  obtain ⟨hx, hb, hml, hown, hts, hK, hA, hG, hR', htr, hlo⟩ := hX
  intro H locs ls hP hD hS hl
  subst hst
  subst hR'
  have hPc : va_P G.1 vwCl wc H := hP.sub isC (z_fm _ _ _ hC)
  have hDc := hD.sub (ws' := wc) isC hnC hC
  have hFc := va_free (wc := wc) hD hS hA isC hC
  have hpc : ∀ U : State, U.heap = H → s.WarmedH U.vm → va_Pc (.ref b :: As) (zB G wc H.size) (.ref b :: As).toArray U := fun U hU hW => ⟨rfl, by rw [hU], by rw [hU]; exact hPc, va_K.moved hW.alike hK, hDc.weaken (fun _ _ _ _ => trivial), by rw [hU]; exact zAmb.go hW (fun a h1 h2 => hS.2.1 a h1 h2) hFc hG⟩
  refine va_calll (va_runV (As := As) (rest := rest) (bytes := bytes) (maxL := maxL) (ret := ret) ⟨hx, hb, hml, hown, hts⟩ (hM l H.size htr) (cwV As.length hts hGd hw hrc hrs hd hR) ⟨zB_blind, va_recv hK hPc (ci := ci) (q0 := q0) hcl hrecv, hpc⟩ rfl rfl hl.1 rfl (lv_room hrest) d hcells) hS (fun q _ h => hFc q h) hFc (fun r u t H1 locs1 ht hvm hw1 hB hz1 hk1 hS1 => ?_)
  obtain ⟨hP1, hK1, hD1⟩ := hB
  rw [ht] at hP1
  obtain ⟨hP2, hD2⟩ := va_join (wr := wr) (w1 := w1 u) hP hD isC isR hC hRr hnR hdis hk1 hFc hP1 hD1
  exact kk r u hw1 H1 locs1 ls hP2 hD2 hS1 hl
theorem z_callV_d (hX : ZOk G X nL cc own Ts R0) {post : UInt64 → S → Prop} (hM : zMetd y ws rm G (.ref b :: As) wc post w1 mc ms) (hw : ws = Cond.code y bytes maxL ret :: ws') (hrc : rm.cells = mc) (hrs : rm.slots = ms) {C : String} (hGd : GoodIn Ts (wsV own idx C y ws)) (hd : y.cls = C ∧ y.cls ≠ "java/lang/invoke/MethodHandle" ∧ y.cls ≠ "java/lang/invoke/VarHandle" ∧ (parseMethodDescriptor y.desc).map (fun d => d.parameters.length) = some As.length) {T : u_T} {N ci : Nat} {fs : List Value} (q0 : Nat) (hrecv : wc[q0]? = some (b, .inr (ci, fs))) (hcl : vwCl[ci]? = some (C, T, N)) (hR : rm.frames + 1 ≤ R0.frames ∧ 8 + (maxL + 11) + rm.locals ≤ R0.locals)
    (isC isR : List Nat) (hC : isC.map (fun i => WS[i]?) = wc.map some) (hRr : isR.map (fun i => WS[i]?) = wr.map some) (hnC : va_nd isC = true) (hnR : va_nd isR = true) (hdis : ∀ i ∈ isR, i ∉ isC) (hst : As.reverse ++ .ref b :: rest = st) (hrest : (rest.map fun v => v.category).sum ≤ 8) (hcells : k + mc ≤ R0.cells ∧ n + ms ≤ R0.slots) (d : decode cc pc = .ok (.invokevirtual idx, 3))
    (kk : ∀ (r : UInt64) (u : S), post r u → Z G X nL (k + mc) (n + ms) (wr ++ w1 u) (pc + 3) loc (.double r :: rest)) : Z G X nL k n WS pc loc st := by
  obtain ⟨p, l, e, R, s, m, args, below, meth, c, Q, A⟩ := X
  obtain ⟨hx, hb, hml, hown, hts, hK, hA, hG, hR', htr, hlo⟩ := hX
  intro H locs ls hP hD hS hl
  subst hst
  subst hR'
  have hPc : va_P G.1 vwCl wc H := hP.sub isC (z_fm _ _ _ hC)
  have hDc := hD.sub (ws' := wc) isC hnC hC
  have hFc := va_free (wc := wc) hD hS hA isC hC
  have hpc : ∀ U : State, U.heap = H → s.WarmedH U.vm → va_Pc (.ref b :: As) (zB G wc H.size) (.ref b :: As).toArray U := fun U hU hW => ⟨rfl, by rw [hU], by rw [hU]; exact hPc, va_K.moved hW.alike hK, hDc.weaken (fun _ _ _ _ => trivial), by rw [hU]; exact zAmb.go hW (fun a h1 h2 => hS.2.1 a h1 h2) hFc hG⟩
  refine va_calld (va_runV (As := As) (rest := rest) (bytes := bytes) (maxL := maxL) (ret := ret) ⟨hx, hb, hml, hown, hts⟩ (hM l H.size htr) (cwV As.length hts hGd hw hrc hrs hd hR) ⟨zB_blind, va_recv hK hPc (ci := ci) (q0 := q0) hcl hrecv, hpc⟩ rfl rfl hl.1 rfl (lv_room hrest) d hcells) hS (fun q _ h => hFc q h) hFc (fun r u t H1 locs1 ht hvm hw1 hB hz1 hk1 hS1 => ?_)
  obtain ⟨hP1, hK1, hD1⟩ := hB
  rw [ht] at hP1
  obtain ⟨hP2, hD2⟩ := va_join (wr := wr) (w1 := w1 u) hP hD isC isR hC hRr hnR hdis hk1 hFc hP1 hD1
  exact kk r u hw1 H1 locs1 ls hP2 hD2 hS1 hl
theorem z_callV_v (hX : ZOk G X nL cc own Ts R0) {post : S → Prop} (hM : zMetv y ws rm G (.ref b :: As) wc post w1 mc ms) (hw : ws = Cond.code y bytes maxL ret :: ws') (hrc : rm.cells = mc) (hrs : rm.slots = ms) {C : String} (hGd : GoodIn Ts (wsV own idx C y ws)) (hd : y.cls = C ∧ y.cls ≠ "java/lang/invoke/MethodHandle" ∧ y.cls ≠ "java/lang/invoke/VarHandle" ∧ (parseMethodDescriptor y.desc).map (fun d => d.parameters.length) = some As.length) {T : u_T} {N ci : Nat} {fs : List Value} (q0 : Nat) (hrecv : wc[q0]? = some (b, .inr (ci, fs))) (hcl : vwCl[ci]? = some (C, T, N)) (hR : rm.frames + 1 ≤ R0.frames ∧ 8 + (maxL + 11) + rm.locals ≤ R0.locals)
    (isC isR : List Nat) (hC : isC.map (fun i => WS[i]?) = wc.map some) (hRr : isR.map (fun i => WS[i]?) = wr.map some) (hnC : va_nd isC = true) (hnR : va_nd isR = true) (hdis : ∀ i ∈ isR, i ∉ isC) (hst : As.reverse ++ .ref b :: rest = st) (hrest : (rest.map fun v => v.category).sum ≤ 8) (hcells : k + mc ≤ R0.cells ∧ n + ms ≤ R0.slots) (d : decode cc pc = .ok (.invokevirtual idx, 3))
    (kk : ∀ (u : S), post u → Z G X nL (k + mc) (n + ms) (wr ++ w1 u) (pc + 3) loc (rest)) : Z G X nL k n WS pc loc st := by
  obtain ⟨p, l, e, R, s, m, args, below, meth, c, Q, A⟩ := X
  obtain ⟨hx, hb, hml, hown, hts, hK, hA, hG, hR', htr, hlo⟩ := hX
  intro H locs ls hP hD hS hl
  subst hst
  subst hR'
  have hPc : va_P G.1 vwCl wc H := hP.sub isC (z_fm _ _ _ hC)
  have hDc := hD.sub (ws' := wc) isC hnC hC
  have hFc := va_free (wc := wc) hD hS hA isC hC
  have hpc : ∀ U : State, U.heap = H → s.WarmedH U.vm → va_Pc (.ref b :: As) (zB G wc H.size) (.ref b :: As).toArray U := fun U hU hW => ⟨rfl, by rw [hU], by rw [hU]; exact hPc, va_K.moved hW.alike hK, hDc.weaken (fun _ _ _ _ => trivial), by rw [hU]; exact zAmb.go hW (fun a h1 h2 => hS.2.1 a h1 h2) hFc hG⟩
  refine va_callv (va_runV (As := As) (rest := rest) (bytes := bytes) (maxL := maxL) (ret := ret) ⟨hx, hb, hml, hown, hts⟩ (hM l H.size htr) (cwV As.length hts hGd hw hrc hrs hd hR) ⟨zB_blind, va_recv hK hPc (ci := ci) (q0 := q0) hcl hrecv, hpc⟩ rfl rfl hl.1 rfl (lv_room hrest) d hcells) hS (fun q _ h => hFc q h) hFc (fun u t H1 locs1 ht hvm hw1 hB hz1 hk1 hS1 => ?_)
  obtain ⟨hP1, hK1, hD1⟩ := hB
  rw [ht] at hP1
  obtain ⟨hP2, hD2⟩ := va_join (wr := wr) (w1 := w1 u) hP hD isC isR hC hRr hnR hdis hk1 hFc hP1 hD1
  exact kk u hw1 H1 locs1 ls hP2 hD2 hS1 hl
theorem z_callV_r (hX : ZOk G X nL cc own Ts R0) {post : Nat → S → Prop} (hM : zMetr y ws rm G (.ref b :: As) wc post w1 mc ms) (hw : ws = Cond.code y bytes maxL ret :: ws') (hrc : rm.cells = mc) (hrs : rm.slots = ms) {C : String} (hGd : GoodIn Ts (wsV own idx C y ws)) (hd : y.cls = C ∧ y.cls ≠ "java/lang/invoke/MethodHandle" ∧ y.cls ≠ "java/lang/invoke/VarHandle" ∧ (parseMethodDescriptor y.desc).map (fun d => d.parameters.length) = some As.length) {T : u_T} {N ci : Nat} {fs : List Value} (q0 : Nat) (hrecv : wc[q0]? = some (b, .inr (ci, fs))) (hcl : vwCl[ci]? = some (C, T, N)) (hR : rm.frames + 1 ≤ R0.frames ∧ 8 + (maxL + 11) + rm.locals ≤ R0.locals)
    (isC isR : List Nat) (hC : isC.map (fun i => WS[i]?) = wc.map some) (hRr : isR.map (fun i => WS[i]?) = wr.map some) (hnC : va_nd isC = true) (hnR : va_nd isR = true) (hdis : ∀ i ∈ isR, i ∉ isC) (hst : As.reverse ++ .ref b :: rest = st) (hrest : (rest.map fun v => v.category).sum ≤ 8) (hcells : k + mc ≤ R0.cells ∧ n + ms ≤ R0.slots) (d : decode cc pc = .ok (.invokevirtual idx, 3))
    (kk : ∀ (r : Nat) (u : S), post r u → Z G X nL (k + mc) (n + ms) (wr ++ w1 u) (pc + 3) loc (.ref r :: rest)) : Z G X nL k n WS pc loc st := by
  obtain ⟨p, l, e, R, s, m, args, below, meth, c, Q, A⟩ := X
  obtain ⟨hx, hb, hml, hown, hts, hK, hA, hG, hR', htr, hlo⟩ := hX
  intro H locs ls hP hD hS hl
  subst hst
  subst hR'
  have hPc : va_P G.1 vwCl wc H := hP.sub isC (z_fm _ _ _ hC)
  have hDc := hD.sub (ws' := wc) isC hnC hC
  have hFc := va_free (wc := wc) hD hS hA isC hC
  have hpc : ∀ U : State, U.heap = H → s.WarmedH U.vm → va_Pc (.ref b :: As) (zB G wc H.size) (.ref b :: As).toArray U := fun U hU hW => ⟨rfl, by rw [hU], by rw [hU]; exact hPc, va_K.moved hW.alike hK, hDc.weaken (fun _ _ _ _ => trivial), by rw [hU]; exact zAmb.go hW (fun a h1 h2 => hS.2.1 a h1 h2) hFc hG⟩
  refine va_callr (va_runV (As := As) (rest := rest) (bytes := bytes) (maxL := maxL) (ret := ret) ⟨hx, hb, hml, hown, hts⟩ (hM l H.size htr) (cwV As.length hts hGd hw hrc hrs hd hR) ⟨zB_blind, va_recv hK hPc (ci := ci) (q0 := q0) hcl hrecv, hpc⟩ rfl rfl hl.1 rfl (lv_room hrest) d hcells) hS (fun q _ h => hFc q h) hFc (fun u ra t H1 locs1 ht hvm hw1 hB hz1 hk1 hS1 => ?_)
  obtain ⟨rfl, hP1, hK1, hD1⟩ := hB
  rw [ht] at hP1
  obtain ⟨hP2, hD2⟩ := va_join (wr := wr) (w1 := w1 u.2) hP hD isC isR hC hRr hnR hdis hk1 hFc hP1 hD1
  exact kk u.1 u.2 hw1 H1 locs1 ls hP2 hD2 hS1 hl
theorem z_callS_i (hX : ZOk G X nL cc own Ts R0) {post : Int32 → S → Prop} (hM : zMeti y ws rm G (As) wc post w1 mc ms) (hw : ws = Cond.code y bytes maxL ret :: ws') (hrc : rm.cells = mc) (hrs : rm.slots = ms) (hGd : GoodIn Ts (va_wsS own idx y ws)) (hd : y.cls ≠ "java/lang/invoke/MethodHandle" ∧ y.cls ≠ "java/lang/invoke/VarHandle" ∧ (parseMethodDescriptor y.desc).map (fun d => d.parameters.length) = some As.length) (hR : rm.frames + 1 ≤ R0.frames ∧ 8 + (maxL + 11) + rm.locals ≤ R0.locals)
    (isC isR : List Nat) (hC : isC.map (fun i => WS[i]?) = wc.map some) (hRr : isR.map (fun i => WS[i]?) = wr.map some) (hnC : va_nd isC = true) (hnR : va_nd isR = true) (hdis : ∀ i ∈ isR, i ∉ isC) (hst : As.reverse ++ rest = st) (hrest : (rest.map fun v => v.category).sum ≤ 8) (hcells : k + mc ≤ R0.cells ∧ n + ms ≤ R0.slots) (d : decode cc pc = .ok (.invokestatic idx, 3))
    (kk : ∀ (r : Int32) (u : S), post r u → Z G X nL (k + mc) (n + ms) (wr ++ w1 u) (pc + 3) loc (.int r :: rest)) : Z G X nL k n WS pc loc st := by
  obtain ⟨p, l, e, R, s, m, args, below, meth, c, Q, A⟩ := X
  obtain ⟨hx, hb, hml, hown, hts, hK, hA, hG, hR', htr, hlo⟩ := hX
  intro H locs ls hP hD hS hl
  subst hst
  subst hR'
  have hPc : va_P G.1 vwCl wc H := hP.sub isC (z_fm _ _ _ hC)
  have hDc := hD.sub (ws' := wc) isC hnC hC
  have hFc := va_free (wc := wc) hD hS hA isC hC
  have hpc : ∀ U : State, U.heap = H → s.WarmedH U.vm → va_Pc (As) (zB G wc H.size) (As).toArray U := fun U hU hW => ⟨rfl, by rw [hU], by rw [hU]; exact hPc, va_K.moved hW.alike hK, hDc.weaken (fun _ _ _ _ => trivial), by rw [hU]; exact zAmb.go hW (fun a h1 h2 => hS.2.1 a h1 h2) hFc hG⟩
  refine va_calli (va_runS (As := As) (rest := rest) (bytes := bytes) (maxL := maxL) (ret := ret) ⟨hx, hb, hml, hown, hts⟩ (hM l H.size htr) (va_cwS As.length hts hGd hw hrc hrs hd hR) ⟨zB_blind, hpc⟩ rfl rfl hl.1 rfl (lv_room hrest) d hcells) hS (fun q _ h => hFc q h) hFc (fun r u t H1 locs1 ht hvm hw1 hB hz1 hk1 hS1 => ?_)
  obtain ⟨hP1, hK1, hD1⟩ := hB
  rw [ht] at hP1
  obtain ⟨hP2, hD2⟩ := va_join (wr := wr) (w1 := w1 u) hP hD isC isR hC hRr hnR hdis hk1 hFc hP1 hD1
  exact kk r u hw1 H1 locs1 ls hP2 hD2 hS1 hl
theorem z_callS_l (hX : ZOk G X nL cc own Ts R0) {post : Int64 → S → Prop} (hM : zMetl y ws rm G (As) wc post w1 mc ms) (hw : ws = Cond.code y bytes maxL ret :: ws') (hrc : rm.cells = mc) (hrs : rm.slots = ms) (hGd : GoodIn Ts (va_wsS own idx y ws)) (hd : y.cls ≠ "java/lang/invoke/MethodHandle" ∧ y.cls ≠ "java/lang/invoke/VarHandle" ∧ (parseMethodDescriptor y.desc).map (fun d => d.parameters.length) = some As.length) (hR : rm.frames + 1 ≤ R0.frames ∧ 8 + (maxL + 11) + rm.locals ≤ R0.locals)
    (isC isR : List Nat) (hC : isC.map (fun i => WS[i]?) = wc.map some) (hRr : isR.map (fun i => WS[i]?) = wr.map some) (hnC : va_nd isC = true) (hnR : va_nd isR = true) (hdis : ∀ i ∈ isR, i ∉ isC) (hst : As.reverse ++ rest = st) (hrest : (rest.map fun v => v.category).sum ≤ 8) (hcells : k + mc ≤ R0.cells ∧ n + ms ≤ R0.slots) (d : decode cc pc = .ok (.invokestatic idx, 3))
    (kk : ∀ (r : Int64) (u : S), post r u → Z G X nL (k + mc) (n + ms) (wr ++ w1 u) (pc + 3) loc (.long r :: rest)) : Z G X nL k n WS pc loc st := by
  obtain ⟨p, l, e, R, s, m, args, below, meth, c, Q, A⟩ := X
  obtain ⟨hx, hb, hml, hown, hts, hK, hA, hG, hR', htr, hlo⟩ := hX
  intro H locs ls hP hD hS hl
  subst hst
  subst hR'
  have hPc : va_P G.1 vwCl wc H := hP.sub isC (z_fm _ _ _ hC)
  have hDc := hD.sub (ws' := wc) isC hnC hC
  have hFc := va_free (wc := wc) hD hS hA isC hC
  have hpc : ∀ U : State, U.heap = H → s.WarmedH U.vm → va_Pc (As) (zB G wc H.size) (As).toArray U := fun U hU hW => ⟨rfl, by rw [hU], by rw [hU]; exact hPc, va_K.moved hW.alike hK, hDc.weaken (fun _ _ _ _ => trivial), by rw [hU]; exact zAmb.go hW (fun a h1 h2 => hS.2.1 a h1 h2) hFc hG⟩
  refine va_calll (va_runS (As := As) (rest := rest) (bytes := bytes) (maxL := maxL) (ret := ret) ⟨hx, hb, hml, hown, hts⟩ (hM l H.size htr) (va_cwS As.length hts hGd hw hrc hrs hd hR) ⟨zB_blind, hpc⟩ rfl rfl hl.1 rfl (lv_room hrest) d hcells) hS (fun q _ h => hFc q h) hFc (fun r u t H1 locs1 ht hvm hw1 hB hz1 hk1 hS1 => ?_)
  obtain ⟨hP1, hK1, hD1⟩ := hB
  rw [ht] at hP1
  obtain ⟨hP2, hD2⟩ := va_join (wr := wr) (w1 := w1 u) hP hD isC isR hC hRr hnR hdis hk1 hFc hP1 hD1
  exact kk r u hw1 H1 locs1 ls hP2 hD2 hS1 hl
theorem z_callS_v (hX : ZOk G X nL cc own Ts R0) {post : S → Prop} (hM : zMetv y ws rm G (As) wc post w1 mc ms) (hw : ws = Cond.code y bytes maxL ret :: ws') (hrc : rm.cells = mc) (hrs : rm.slots = ms) (hGd : GoodIn Ts (va_wsS own idx y ws)) (hd : y.cls ≠ "java/lang/invoke/MethodHandle" ∧ y.cls ≠ "java/lang/invoke/VarHandle" ∧ (parseMethodDescriptor y.desc).map (fun d => d.parameters.length) = some As.length) (hR : rm.frames + 1 ≤ R0.frames ∧ 8 + (maxL + 11) + rm.locals ≤ R0.locals)
    (isC isR : List Nat) (hC : isC.map (fun i => WS[i]?) = wc.map some) (hRr : isR.map (fun i => WS[i]?) = wr.map some) (hnC : va_nd isC = true) (hnR : va_nd isR = true) (hdis : ∀ i ∈ isR, i ∉ isC) (hst : As.reverse ++ rest = st) (hrest : (rest.map fun v => v.category).sum ≤ 8) (hcells : k + mc ≤ R0.cells ∧ n + ms ≤ R0.slots) (d : decode cc pc = .ok (.invokestatic idx, 3))
    (kk : ∀ (u : S), post u → Z G X nL (k + mc) (n + ms) (wr ++ w1 u) (pc + 3) loc (rest)) : Z G X nL k n WS pc loc st := by
  obtain ⟨p, l, e, R, s, m, args, below, meth, c, Q, A⟩ := X
  obtain ⟨hx, hb, hml, hown, hts, hK, hA, hG, hR', htr, hlo⟩ := hX
  intro H locs ls hP hD hS hl
  subst hst
  subst hR'
  have hPc : va_P G.1 vwCl wc H := hP.sub isC (z_fm _ _ _ hC)
  have hDc := hD.sub (ws' := wc) isC hnC hC
  have hFc := va_free (wc := wc) hD hS hA isC hC
  have hpc : ∀ U : State, U.heap = H → s.WarmedH U.vm → va_Pc (As) (zB G wc H.size) (As).toArray U := fun U hU hW => ⟨rfl, by rw [hU], by rw [hU]; exact hPc, va_K.moved hW.alike hK, hDc.weaken (fun _ _ _ _ => trivial), by rw [hU]; exact zAmb.go hW (fun a h1 h2 => hS.2.1 a h1 h2) hFc hG⟩
  refine va_callv (va_runS (As := As) (rest := rest) (bytes := bytes) (maxL := maxL) (ret := ret) ⟨hx, hb, hml, hown, hts⟩ (hM l H.size htr) (va_cwS As.length hts hGd hw hrc hrs hd hR) ⟨zB_blind, hpc⟩ rfl rfl hl.1 rfl (lv_room hrest) d hcells) hS (fun q _ h => hFc q h) hFc (fun u t H1 locs1 ht hvm hw1 hB hz1 hk1 hS1 => ?_)
  obtain ⟨hP1, hK1, hD1⟩ := hB
  rw [ht] at hP1
  obtain ⟨hP2, hD2⟩ := va_join (wr := wr) (w1 := w1 u) hP hD isC isR hC hRr hnR hdis hk1 hFc hP1 hD1
  exact kk u hw1 H1 locs1 ls hP2 hD2 hS1 hl
theorem z_callS_d (hX : ZOk G X nL cc own Ts R0) {post : UInt64 → S → Prop} (hM : zMetd y ws rm G (As) wc post w1 mc ms) (hw : ws = Cond.code y bytes maxL ret :: ws') (hrc : rm.cells = mc) (hrs : rm.slots = ms) (hGd : GoodIn Ts (va_wsS own idx y ws)) (hd : y.cls ≠ "java/lang/invoke/MethodHandle" ∧ y.cls ≠ "java/lang/invoke/VarHandle" ∧ (parseMethodDescriptor y.desc).map (fun d => d.parameters.length) = some As.length) (hR : rm.frames + 1 ≤ R0.frames ∧ 8 + (maxL + 11) + rm.locals ≤ R0.locals)
    (isC isR : List Nat) (hC : isC.map (fun i => WS[i]?) = wc.map some) (hRr : isR.map (fun i => WS[i]?) = wr.map some) (hnC : va_nd isC = true) (hnR : va_nd isR = true) (hdis : ∀ i ∈ isR, i ∉ isC) (hst : As.reverse ++ rest = st) (hrest : (rest.map fun v => v.category).sum ≤ 8) (hcells : k + mc ≤ R0.cells ∧ n + ms ≤ R0.slots) (d : decode cc pc = .ok (.invokestatic idx, 3))
    (kk : ∀ (r : UInt64) (u : S), post r u → Z G X nL (k + mc) (n + ms) (wr ++ w1 u) (pc + 3) loc (.double r :: rest)) : Z G X nL k n WS pc loc st := by
  obtain ⟨p, l, e, R, s, m, args, below, meth, c, Q, A⟩ := X
  obtain ⟨hx, hb, hml, hown, hts, hK, hA, hG, hR', htr, hlo⟩ := hX
  intro H locs ls hP hD hS hl
  subst hst
  subst hR'
  have hPc : va_P G.1 vwCl wc H := hP.sub isC (z_fm _ _ _ hC)
  have hDc := hD.sub (ws' := wc) isC hnC hC
  have hFc := va_free (wc := wc) hD hS hA isC hC
  have hpc : ∀ U : State, U.heap = H → s.WarmedH U.vm → va_Pc (As) (zB G wc H.size) (As).toArray U := fun U hU hW => ⟨rfl, by rw [hU], by rw [hU]; exact hPc, va_K.moved hW.alike hK, hDc.weaken (fun _ _ _ _ => trivial), by rw [hU]; exact zAmb.go hW (fun a h1 h2 => hS.2.1 a h1 h2) hFc hG⟩
  refine va_calld (va_runS (As := As) (rest := rest) (bytes := bytes) (maxL := maxL) (ret := ret) ⟨hx, hb, hml, hown, hts⟩ (hM l H.size htr) (va_cwS As.length hts hGd hw hrc hrs hd hR) ⟨zB_blind, hpc⟩ rfl rfl hl.1 rfl (lv_room hrest) d hcells) hS (fun q _ h => hFc q h) hFc (fun r u t H1 locs1 ht hvm hw1 hB hz1 hk1 hS1 => ?_)
  obtain ⟨hP1, hK1, hD1⟩ := hB
  rw [ht] at hP1
  obtain ⟨hP2, hD2⟩ := va_join (wr := wr) (w1 := w1 u) hP hD isC isR hC hRr hnR hdis hk1 hFc hP1 hD1
  exact kk r u hw1 H1 locs1 ls hP2 hD2 hS1 hl
theorem z_callSN_i (hX : ZOk G X nL cc own Ts R0) {post : Int32 → S → Prop} (hM : zMeti y ws rm G (As) wc post w1 mc ms) (hw : ws = Cond.code y bytes maxL ret :: ws') (hrc : rm.cells = mc) (hrs : rm.slots = ms) (hGd : GoodIn Ts ws) (hd : y.cls ≠ "java/lang/invoke/MethodHandle" ∧ y.cls ≠ "java/lang/invoke/VarHandle" ∧ (parseMethodDescriptor y.desc).map (fun d => d.parameters.length) = some As.length) (hnest : Cond.methodLinkNest own idx y RX5 ∈ zNest) (hini : Cond.initialized y.cls ∈ Ts) (hstat : Cond.static y ∈ Ts) (hR : rm.frames + 1 ≤ R0.frames ∧ 8 + (maxL + 11) + rm.locals ≤ R0.locals)
    (isC isR : List Nat) (hC : isC.map (fun i => WS[i]?) = wc.map some) (hRr : isR.map (fun i => WS[i]?) = wr.map some) (hnC : va_nd isC = true) (hnR : va_nd isR = true) (hdis : ∀ i ∈ isR, i ∉ isC) (hst : As.reverse ++ rest = st) (hrest : (rest.map fun v => v.category).sum ≤ 8) (hcells : k + mc ≤ R0.cells ∧ n + ms ≤ R0.slots) (d : decode cc pc = .ok (.invokestatic idx, 3))
    (kk : ∀ (r : Int32) (u : S), post r u → Z G X nL (k + mc) (n + ms) (wr ++ w1 u) (pc + 3) loc (.int r :: rest)) : Z G X nL k n WS pc loc st := by
  obtain ⟨p, l, e, R, s, m, args, below, meth, c, Q, A⟩ := X
  obtain ⟨hx, hb, hml, hown, hts, hK, hA, hG, hR', htr, hlo⟩ := hX
  intro H locs ls hP hD hS hl
  subst hst
  subst hR'
  have hPc : va_P G.1 vwCl wc H := hP.sub isC (z_fm _ _ _ hC)
  have hDc := hD.sub (ws' := wc) isC hnC hC
  have hFc := va_free (wc := wc) hD hS hA isC hC
  have hpc : ∀ U : State, U.heap = H → s.WarmedH U.vm → va_Pc (As) (zB G wc H.size) (As).toArray U := fun U hU hW => ⟨rfl, by rw [hU], by rw [hU]; exact hPc, va_K.moved hW.alike hK, hDc.weaken (fun _ _ _ _ => trivial), by rw [hU]; exact zAmb.go hW (fun a h1 h2 => hS.2.1 a h1 h2) hFc hG⟩
  refine va_calli (va_runSN (As := As) (rest := rest) (bytes := bytes) (maxL := maxL) (ret := ret) ⟨hx, hb, hml, hown, hts⟩ (hM l H.size htr) (⟨va_cnB As.length hts hGd hw hrc hrs (hG.1 _ hnest) (hts _ hini) hd hR, hts _ hstat, trivial⟩) ⟨zB_blind, hpc⟩ rfl rfl hl.1 rfl (lv_room hrest) d hcells) hS (fun q _ h => hFc q h) hFc (fun r u t H1 locs1 ht hvm hw1 hB hz1 hk1 hS1 => ?_)
  obtain ⟨hP1, hK1, hD1⟩ := hB
  rw [ht] at hP1
  obtain ⟨hP2, hD2⟩ := va_join (wr := wr) (w1 := w1 u) hP hD isC isR hC hRr hnR hdis hk1 hFc hP1 hD1
  exact kk r u hw1 H1 locs1 ls hP2 hD2 hS1 hl
theorem z_callSN_v (hX : ZOk G X nL cc own Ts R0) {post : S → Prop} (hM : zMetv y ws rm G (As) wc post w1 mc ms) (hw : ws = Cond.code y bytes maxL ret :: ws') (hrc : rm.cells = mc) (hrs : rm.slots = ms) (hGd : GoodIn Ts ws) (hd : y.cls ≠ "java/lang/invoke/MethodHandle" ∧ y.cls ≠ "java/lang/invoke/VarHandle" ∧ (parseMethodDescriptor y.desc).map (fun d => d.parameters.length) = some As.length) (hnest : Cond.methodLinkNest own idx y RX5 ∈ zNest) (hini : Cond.initialized y.cls ∈ Ts) (hstat : Cond.static y ∈ Ts) (hR : rm.frames + 1 ≤ R0.frames ∧ 8 + (maxL + 11) + rm.locals ≤ R0.locals)
    (isC isR : List Nat) (hC : isC.map (fun i => WS[i]?) = wc.map some) (hRr : isR.map (fun i => WS[i]?) = wr.map some) (hnC : va_nd isC = true) (hnR : va_nd isR = true) (hdis : ∀ i ∈ isR, i ∉ isC) (hst : As.reverse ++ rest = st) (hrest : (rest.map fun v => v.category).sum ≤ 8) (hcells : k + mc ≤ R0.cells ∧ n + ms ≤ R0.slots) (d : decode cc pc = .ok (.invokestatic idx, 3))
    (kk : ∀ (u : S), post u → Z G X nL (k + mc) (n + ms) (wr ++ w1 u) (pc + 3) loc (rest)) : Z G X nL k n WS pc loc st := by
  obtain ⟨p, l, e, R, s, m, args, below, meth, c, Q, A⟩ := X
  obtain ⟨hx, hb, hml, hown, hts, hK, hA, hG, hR', htr, hlo⟩ := hX
  intro H locs ls hP hD hS hl
  subst hst
  subst hR'
  have hPc : va_P G.1 vwCl wc H := hP.sub isC (z_fm _ _ _ hC)
  have hDc := hD.sub (ws' := wc) isC hnC hC
  have hFc := va_free (wc := wc) hD hS hA isC hC
  have hpc : ∀ U : State, U.heap = H → s.WarmedH U.vm → va_Pc (As) (zB G wc H.size) (As).toArray U := fun U hU hW => ⟨rfl, by rw [hU], by rw [hU]; exact hPc, va_K.moved hW.alike hK, hDc.weaken (fun _ _ _ _ => trivial), by rw [hU]; exact zAmb.go hW (fun a h1 h2 => hS.2.1 a h1 h2) hFc hG⟩
  refine va_callv (va_runSN (As := As) (rest := rest) (bytes := bytes) (maxL := maxL) (ret := ret) ⟨hx, hb, hml, hown, hts⟩ (hM l H.size htr) (⟨va_cnB As.length hts hGd hw hrc hrs (hG.1 _ hnest) (hts _ hini) hd hR, hts _ hstat, trivial⟩) ⟨zB_blind, hpc⟩ rfl rfl hl.1 rfl (lv_room hrest) d hcells) hS (fun q _ h => hFc q h) hFc (fun u t H1 locs1 ht hvm hw1 hB hz1 hk1 hS1 => ?_)
  obtain ⟨hP1, hK1, hD1⟩ := hB
  rw [ht] at hP1
  obtain ⟨hP2, hD2⟩ := va_join (wr := wr) (w1 := w1 u) hP hD isC isR hC hRr hnR hdis hk1 hFc hP1 hD1
  exact kk u hw1 H1 locs1 ls hP2 hD2 hS1 hl
theorem z_callI_v (hX : ZOk G X nL cc own Ts R0) {post : S → Prop} (hM : zMetv y ws rm G (.ref b :: As) wc post w1 mc ms) (hw : ws = Cond.code y bytes maxL none :: ws') (hrc : rm.cells = mc) (hrs : rm.slots = ms) (hGd : GoodIn Ts ws) (hd : y.cls ≠ "java/lang/invoke/MethodHandle" ∧ y.cls ≠ "java/lang/invoke/VarHandle" ∧ (parseMethodDescriptor y.desc).map (fun d => d.parameters.length) = some As.length) (hini : Cond.initialized y.cls ∈ Ts) (hlk : Cond.methodLink own idx y ∈ Ts) (hinst : Cond.instanceMethod y ∈ Ts) (hnm : y.name = "<init>") (hR : rm.frames + 1 ≤ R0.frames ∧ 8 + (maxL + 11) + rm.locals ≤ R0.locals)
    (isC isR : List Nat) (hC : isC.map (fun i => WS[i]?) = wc.map some) (hRr : isR.map (fun i => WS[i]?) = wr.map some) (hnC : va_nd isC = true) (hnR : va_nd isR = true) (hdis : ∀ i ∈ isR, i ∉ isC) (hst : As.reverse ++ .ref b :: rest = st) (hrest : (rest.map fun v => v.category).sum ≤ 8) (hcells : k + mc ≤ R0.cells ∧ n + ms ≤ R0.slots) (d : decode cc pc = .ok (.invokespecial idx, 3))
    (kk : ∀ (u : S), post u → Z G X nL (k + mc) (n + ms) (wr ++ w1 u) (pc + 3) loc (rest)) : Z G X nL k n WS pc loc st := by
  obtain ⟨p, l, e, R, s, m, args, below, meth, c, Q, A⟩ := X
  obtain ⟨hx, hb, hml, hown, hts, hK, hA, hG, hR', htr, hlo⟩ := hX
  intro H locs ls hP hD hS hl
  subst hst
  subst hR'
  have hPc : va_P G.1 vwCl wc H := hP.sub isC (z_fm _ _ _ hC)
  have hDc := hD.sub (ws' := wc) isC hnC hC
  have hFc := va_free (wc := wc) hD hS hA isC hC
  have hpc : ∀ U : State, U.heap = H → s.WarmedH U.vm → va_Pc (.ref b :: As) (zB G wc H.size) (.ref b :: As).toArray U := fun U hU hW => ⟨rfl, by rw [hU], by rw [hU]; exact hPc, va_K.moved hW.alike hK, hDc.weaken (fun _ _ _ _ => trivial), by rw [hU]; exact zAmb.go hW (fun a h1 h2 => hS.2.1 a h1 h2) hFc hG⟩
  refine va_callv (va_runI (As := As) (rest := rest) (bytes := bytes) (maxL := maxL) ⟨hx, hb, hml, hown, hts⟩ (hM l H.size htr) (cwI As.length hts hGd hw hrc hrs (hts _ hini) (hts _ hlk) (hts _ hinst) hnm hd hR) ⟨zB_blind, hpc⟩ rfl rfl hl.1 rfl (lv_room hrest) d hcells) hS (fun q _ h => hFc q h) hFc (fun u t H1 locs1 ht hvm hw1 hB hz1 hk1 hS1 => ?_)
  obtain ⟨hP1, hK1, hD1⟩ := hB
  rw [ht] at hP1
  obtain ⟨hP2, hD2⟩ := va_join (wr := wr) (w1 := w1 u) hP hD isC isR hC hRr hnR hdis hk1 hFc hP1 hD1
  exact kk u hw1 H1 locs1 ls hP2 hD2 hS1 hl
theorem z_callIN_v (hX : ZOk G X nL cc own Ts R0) {post : S → Prop} (hM : zMetv y ws rm G (.ref b :: As) wc post w1 mc ms) (hw : ws = Cond.code y bytes maxL none :: ws') (hrc : rm.cells = mc) (hrs : rm.slots = ms) (hGd : GoodIn Ts ws) (hd : y.cls ≠ "java/lang/invoke/MethodHandle" ∧ y.cls ≠ "java/lang/invoke/VarHandle" ∧ (parseMethodDescriptor y.desc).map (fun d => d.parameters.length) = some As.length) (hnest : Cond.methodLinkNest own idx y RX5 ∈ zNest) (hini : Cond.initialized y.cls ∈ Ts) (hinst : Cond.instanceMethod y ∈ Ts) (hnm : y.name = "<init>") (hR : rm.frames + 1 ≤ R0.frames ∧ 8 + (maxL + 11) + rm.locals ≤ R0.locals)
    (isC isR : List Nat) (hC : isC.map (fun i => WS[i]?) = wc.map some) (hRr : isR.map (fun i => WS[i]?) = wr.map some) (hnC : va_nd isC = true) (hnR : va_nd isR = true) (hdis : ∀ i ∈ isR, i ∉ isC) (hst : As.reverse ++ .ref b :: rest = st) (hrest : (rest.map fun v => v.category).sum ≤ 8) (hcells : k + mc ≤ R0.cells ∧ n + ms ≤ R0.slots) (d : decode cc pc = .ok (.invokespecial idx, 3))
    (kk : ∀ (u : S), post u → Z G X nL (k + mc) (n + ms) (wr ++ w1 u) (pc + 3) loc (rest)) : Z G X nL k n WS pc loc st := by
  obtain ⟨p, l, e, R, s, m, args, below, meth, c, Q, A⟩ := X
  obtain ⟨hx, hb, hml, hown, hts, hK, hA, hG, hR', htr, hlo⟩ := hX
  intro H locs ls hP hD hS hl
  subst hst
  subst hR'
  have hPc : va_P G.1 vwCl wc H := hP.sub isC (z_fm _ _ _ hC)
  have hDc := hD.sub (ws' := wc) isC hnC hC
  have hFc := va_free (wc := wc) hD hS hA isC hC
  have hpc : ∀ U : State, U.heap = H → s.WarmedH U.vm → va_Pc (.ref b :: As) (zB G wc H.size) (.ref b :: As).toArray U := fun U hU hW => ⟨rfl, by rw [hU], by rw [hU]; exact hPc, va_K.moved hW.alike hK, hDc.weaken (fun _ _ _ _ => trivial), by rw [hU]; exact zAmb.go hW (fun a h1 h2 => hS.2.1 a h1 h2) hFc hG⟩
  refine va_callv (va_runIN (As := As) (rest := rest) (bytes := bytes) (maxL := maxL) ⟨hx, hb, hml, hown, hts⟩ (hM l H.size htr) (⟨va_cnB As.length hts hGd hw hrc hrs (hG.1 _ hnest) (hts _ hini) hd hR, hnm, hts _ hinst⟩) ⟨zB_blind, hpc⟩ rfl rfl hl.1 rfl (lv_room hrest) d hcells) hS (fun q _ h => hFc q h) hFc (fun u t H1 locs1 ht hvm hw1 hB hz1 hk1 hS1 => ?_)
  obtain ⟨hP1, hK1, hD1⟩ := hB
  rw [ht] at hP1
  obtain ⟨hP2, hD2⟩ := va_join (wr := wr) (w1 := w1 u) hP hD isC isR hC hRr hnR hdis hk1 hFc hP1 hD1
  exact kk u hw1 H1 locs1 ls hP2 hD2 hS1 hl
end ZCalls
