/-! ===== pure: doubles and hashes of the digest ===== -/
def evD (p f : Int) : UInt64 := if p ≤ 0 then 4607182418800017408 else FP.ddiv (FP.i2d (iI (p - f))) (FP.i2d (iI p))
def dcG (x y : UInt64) : Int := (Op.cmpValue (FP.dcmp x y) .g).toInt
theorem dcG_i (x y : UInt64) : iI (dcG x y) = Op.cmpValue (FP.dcmp x y) .g := Int32.ofInt_toInt _
theorem dcG_r (x y : UInt64) : -1 ≤ dcG x y ∧ dcG x y ≤ 1 := by
  unfold dcG
  cases FP.dcmp x y with
  | none => decide
  | some o => cases o <;> decide
theorem z_dcmpZ {G : ZG} {X : ZT} {nL k n : Nat} {cc : ByteArray} {own : String} {Ts : List Cond} {R0 : Room} {WS : va_W} {pc : Nat} {loc : List (Nat × Value)} {st : List Value} (hX : ZOk G X nL cc own Ts R0) {x y : UInt64} (d : decode cc pc = .ok (.dcmp .g, 1)) (kk : Z G X nL k n WS (pc + 1) loc (.int (iI (dcG x y)) :: st)) : Z G X nL k n WS pc loc (.double y :: .double x :: st) := z_dcmp hX d (by rw [← dcG_i]; exact kk)
def boF (s : UInt64) (e : Int64) : Int64 := (e <<< ((iI 52).toInt64 &&& 63)) + FP.d2l (FP.dmul (FP.dsub s 4607182418800017408) 4841369599423283200)
def boA : Nat → UInt64 → Int64 → Int64
  | 0, s, e => boF s e
  | n + 1, s, e => if 0 ≤ dcG s 4607182418800017408 then boF s e else boA n (FP.dmul s 4611686018427387904) (e - 1)
def dnB (x : UInt64) : Bool := decide (x &&& 0x7fffffffffffffff ≤ 0x7ff0000000000000)
theorem dnB_n {x : UInt64} (h : dnB x = true) : vf_n64 x := by
  unfold dnB at h
  have q := of_decide_eq_true h
  exact q
def boC (s : UInt64) : Bool := dnB (FP.dsub s 4607182418800017408) && dnB (FP.dmul (FP.dsub s 4607182418800017408) 4841369599423283200)
theorem boC_1 {s : UInt64} (h : boC s = true) : vf_n64 (FP.dsub s 4607182418800017408) := dnB_n ((Bool.and_eq_true _ _).mp h).1
theorem boC_2 {s : UInt64} (h : boC s = true) : vf_n64 (FP.dmul (FP.dsub s 4607182418800017408) 4841369599423283200) := dnB_n ((Bool.and_eq_true _ _).mp h).2
def boK : Nat → UInt64 → Bool
  | 0, s => boC s
  | n + 1, s => if 0 ≤ dcG s 4607182418800017408 then boC s else dnB (FP.dmul s 4611686018427387904) && boK n (FP.dmul s 4611686018427387904)
theorem boA_e (s : UInt64) (e : Int64) {i : Int} (h : 64 ≤ i) : boA (64 - i).toNat s e = boF s e := by
  rw [show (64 - i).toNat = 0 by omega]; rfl
theorem boK_e (s : UInt64) {i : Int} (h : 64 ≤ i) : boK (64 - i).toNat s = boC s := by
  rw [show (64 - i).toNat = 0 by omega]; rfl
theorem boA_s (s : UInt64) (e : Int64) {i : Int} (h : i < 64) : boA (64 - i).toNat s e = if 0 ≤ dcG s 4607182418800017408 then boF s e else boA (64 - (i + 1)).toNat (FP.dmul s 4611686018427387904) (e - 1) := by
  rw [show (64 - i).toNat = (64 - (i + 1)).toNat + 1 by omega]; rfl
theorem boK_s (s : UInt64) {i : Int} (h : i < 64) : boK (64 - i).toNat s = if 0 ≤ dcG s 4607182418800017408 then boC s else dnB (FP.dmul s 4611686018427387904) && boK (64 - (i + 1)).toNat (FP.dmul s 4611686018427387904) := by
  rw [show (64 - i).toNat = (64 - (i + 1)).toNat + 1 by omega]; rfl
theorem boK_f {s : UInt64} {i : Int} (h : i < 64) (h2 : ¬ 0 ≤ dcG s 4607182418800017408) (hk : boK (64 - i).toNat s = true) : vf_n64 (FP.dmul s 4611686018427387904) ∧ boK (64 - (i + 1)).toNat (FP.dmul s 4611686018427387904) = true := by
  rw [boK_s s h, if_neg h2, Bool.and_eq_true] at hk
  exact ⟨dnB_n hk.1, hk.2⟩
theorem bo_end {s : UInt64} {e : Int64} {i : Int} (h : 64 ≤ i ∨ 0 ≤ dcG s 4607182418800017408) (hk : boK (64 - i).toNat s = true) : boC s = true ∧ boA (64 - i).toNat s e = boF s e := by
  by_cases q : i < 64
  · have h2 : 0 ≤ dcG s 4607182418800017408 := h.resolve_left (by omega)
    rw [boK_s s q, if_pos h2] at hk
    rw [boA_s s e q, if_pos h2]
    exact ⟨hk, rfl⟩
  · rw [boK_e s (by omega)] at hk
    rw [boA_e s e (by omega)]
    exact ⟨hk, rfl⟩
def boS (d : UInt64) : Int64 := if dcG d 0 ≤ 0 then 0 else boA 64 d 1023
def evC (p f : Nat) : Bool := dnB (evD p f) && (decide (dcG (evD p f) 0 ≤ 0) || boK 64 (evD p f)) && decide (boS (evD p f) = (evD p f).toInt64)
theorem evC_all : ∀ p : Fin 21, ∀ f : Fin 21, f.1 ≤ p.1 → evC p.1 f.1 = true := by decide +kernel
theorem ev_all {p f : Int} (hp : 0 ≤ p ∧ p ≤ 20) (hf : 0 ≤ f ∧ f ≤ p) : vf_n64 (evD p f) ∧ (¬ dcG (evD p f) 0 ≤ 0 → boK 64 (evD p f) = true) ∧ boS (evD p f) = (evD p f).toInt64 := by
  have h := evC_all ⟨p.toNat, by omega⟩ ⟨f.toNat, by omega⟩ (by show f.toNat ≤ p.toNat; omega)
  have e1 : ((p.toNat : Nat) : Int) = p := by omega
  have e2 : ((f.toNat : Nat) : Int) = f := by omega
  unfold evC at h
  dsimp only at h
  rw [e1, e2, Bool.and_eq_true, Bool.and_eq_true, Bool.or_eq_true, decide_eq_true_iff, decide_eq_true_iff] at h
  exact ⟨dnB_n h.1.1, fun q => h.1.2.resolve_left q, h.2⟩
theorem evD_n {p f : Int} (hp : 1 ≤ p ∧ p ≤ 20) (hf : 0 ≤ f ∧ f ≤ p) : vf_n64 (FP.ddiv (FP.i2d (iI (p - f))) (FP.i2d (iI p))) := by
  have h := (ev_all (p := p) (f := f) ⟨by omega, hp.2⟩ hf).1
  unfold evD at h
  rw [if_neg (by omega)] at h
  exact h
def mxI (h : Int64) (v : Int) : Int64 := 31 * h + (iI v).toInt64
def dgL (f : Int → Int) : Nat → Int64 → Int64
  | 0, h => h
  | i + 1, h => mxI (dgL f i h) (f i)
def dgI (f : Int → Int → Int) (g : Int → Int) : Nat → Int64 → Int64
  | 0, h => h
  | i + 1, h => mxI (dgL (f i) 9 (dgI f g i h)) (g i)
def dgR (f g : Int → Int) : Nat → Int64 → Int64
  | 0, h => h
  | i + 1, h => mxI (mxI (dgR f g i h) (f i)) (g i)
theorem dgL_s (f : Int → Int) (h : Int64) {i : Int} (hi : 0 ≤ i) : dgL f (i + 1).toNat h = 31 * dgL f i.toNat h + (iI (f i)).toInt64 := by
  have e : (i + 1).toNat = i.toNat + 1 := by omega
  have e2 : ((i.toNat : Nat) : Int) = i := by omega
  rw [e]
  simp only [dgL, e2]
  rfl
theorem dgI_s (f : Int → Int → Int) (g : Int → Int) (h : Int64) {i : Int} (hi : 0 ≤ i) : dgI f g (i + 1).toNat h = 31 * dgL (f i) 9 (dgI f g i.toNat h) + (iI (g i)).toInt64 := by
  have e : (i + 1).toNat = i.toNat + 1 := by omega
  have e2 : ((i.toNat : Nat) : Int) = i := by omega
  rw [e]
  simp only [dgI, e2]
  rfl
theorem dgR_s (f g : Int → Int) (h : Int64) {i : Int} (hi : 0 ≤ i) : dgR f g (i + 1).toNat h = 31 * (31 * dgR f g i.toNat h + (iI (f i)).toInt64) + (iI (g i)).toInt64 := by
  have e : (i + 1).toNat = i.toNat + 1 := by omega
  have e2 : ((i.toNat : Nat) : Int) = i := by omega
  rw [e]
  simp only [dgR, e2]
  rfl
def dgS (E F K : Int → Int) (n bd sz : Int) (C : Int → Int) (len : Int) : Int64 :=
  dgL C len.toNat (mxI (31 * mxI (mxI (mxI (mxI (dgR (fun s => bIn s 0 (E 0)) (fun s => bIn s 9 (E 0)) 4 (dgR (rkV false E F K n) (rkV true E F K n) (psN F n).toNat (dgI (itS E F K n) (nkS E F K n) n.toNat (dgL (lnV E F K n bd sz) 16 3697)))) (ftS E F K n 4 5)) (wdS E F K n 4 5)) (gaS E F K n bd)) (bsS E F K n) + boS (evD (psN F n) (fsN E F K n))) len)
def exZ (F : Int → Int) (p q : Int) : Int → Int := uZ (uZ F p (F q)) q (F p)
theorem exZ_ok {F : Int → Int} {p q : Int} {P : Int → Prop} {n : Int} (h : ∀ j : Int, 0 ≤ j → j < n → P (F j)) (hp : 0 ≤ p ∧ p < n) (hq : 0 ≤ q ∧ q < n) : ∀ j : Int, 0 ≤ j → j < n → P (exZ F p q j) := by
  intro j h0 h1
  unfold exZ uZ
  split
  · exact h p hp.1 hp.2
  · split
    · exact h q hq.1 hq.2
    · exact h j h0 h1
