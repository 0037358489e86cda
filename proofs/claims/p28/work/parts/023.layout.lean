/-! ===== pure: the line as it is laid ===== -/
theorem uZ_step {T f : Int → Int} {i v : Int} (h : ∀ j : Int, 0 ≤ j → j < i → T j = f j) (hv : v = f i) : ∀ j : Int, 0 ≤ j → j < i + 1 → uZ T i v j = f j := by
  intro j h0 h1
  by_cases e : j = i
  · rw [e, uZ_at, hv]
  · rw [uZ_ne e]
    exact h j h0 (by omega)
def arF (N : Int → Int) (rl g : Int) : Int → Int := fun q => if g + N q < rl then g + N q else rl
def arS (N : Int → Int) (rl g : Int) : Int := sumZ (arF N rl g) 10
theorem arS_r {N : Int → Int} {rl g : Int} (hN : ∀ q : Int, 0 ≤ q → q < 10 → 0 ≤ N q ∧ N q ≤ 8) (hg : 0 ≤ g) (hr : 0 ≤ rl ∧ rl ≤ 40) : 0 ≤ arS N rl g ∧ arS N rl g ≤ 10 * rl := by
  have h := sumZ_r (f := arF N rl g) (b := rl) 10 (fun j h0 h1 => by
    have := hN j h0 (by omega)
    unfold arF
    split <;> omega)
  exact h
theorem arS_c {N M : Int → Int} (rl g : Int) (h : ∀ q : Int, 0 ≤ q → q < 10 → N q = M q) : arS N rl g = arS M rl g :=
  sumZ_c 10 (fun j h0 h1 => by
    unfold arF
    rw [h j h0 (by omega)])
def lgA (f : Int → Int) (wa : Int) : Nat → Int
  | 0 => 40
  | n + 1 => if wa ≤ f (40 - (n + 1)) then 40 - (n + 1) else lgA f wa n
theorem lgA_0 (f : Int → Int) (wa : Int) {g : Int} (h : 40 ≤ g) : lgA f wa (40 - g).toNat = 40 := by
  have e : (40 - g).toNat = 0 := by omega
  rw [e]; rfl
theorem lgA_s (f : Int → Int) (wa : Int) {g : Int} (h : g < 40) : lgA f wa (40 - g).toNat = if wa ≤ f g then g else lgA f wa (40 - (g + 1)).toNat := by
  have e : (40 - g).toNat = (40 - (g + 1)).toNat + 1 := by omega
  have e2 : (40 : Int) - (((40 - (g + 1)).toNat : Int) + 1) = g := by omega
  rw [e]
  show (if wa ≤ f (40 - (((40 - (g + 1)).toNat : Int) + 1)) then 40 - (((40 - (g + 1)).toNat : Int) + 1) else lgA f wa (40 - (g + 1)).toNat) = _
  rw [e2]
def lgS (N : Int → Int) (rl wa : Int) : Int := lgA (arS N rl) wa 40
theorem lgA_r (f : Int → Int) (wa : Int) : ∀ n : Nat, n ≤ 40 → 0 ≤ lgA f wa n ∧ lgA f wa n ≤ 40
  | 0, _ => by simp [lgA]
  | n + 1, h => by
    have h1 := lgA_r f wa n (by omega)
    show 0 ≤ (if wa ≤ f (40 - (n + 1)) then 40 - ((n : Int) + 1) else lgA f wa n) ∧ (if wa ≤ f (40 - (n + 1)) then 40 - ((n : Int) + 1) else lgA f wa n) ≤ 40
    split <;> omega
theorem lgS_r (N : Int → Int) (rl wa : Int) : 0 ≤ lgS N rl wa ∧ lgS N rl wa ≤ 40 := lgA_r _ _ 40 (Nat.le_refl _)
theorem lgA_big {f : Int → Int} {wa : Int} : ∀ n : Nat, n ≤ 40 → (∀ g : Int, 0 ≤ g → g < 40 → f g < wa) → lgA f wa n = 40
  | 0, _, _ => rfl
  | n + 1, h, hf => by
    have h1 := lgA_big n (by omega) hf
    have h2 := hf (40 - ((n : Int) + 1)) (by omega) (by omega)
    show (if wa ≤ f (40 - ((n : Int) + 1)) then 40 - ((n : Int) + 1) else lgA f wa n) = 40
    rw [if_neg (by omega), h1]
theorem lgS_big {N : Int → Int} {rl wa : Int} (hN : ∀ q : Int, 0 ≤ q → q < 10 → 0 ≤ N q ∧ N q ≤ 8) (hr : 0 ≤ rl ∧ rl ≤ 40) (h : 10 * rl < wa) : lgS N rl wa = 40 :=
  lgA_big 40 (Nat.le_refl _) (fun g h0 _ => by
    have := arS_r hN h0 hr
    omega)
def snS (sn p : Int) : Int := if sn ≤ 1 then p else if p % sn = 0 then p else p + sn - p % sn
theorem emod_r {p sn : Int} (h : 0 < sn) : 0 ≤ p % sn ∧ p % sn < sn := ⟨Int.emod_nonneg p (by omega), Int.emod_lt_of_pos p h⟩
theorem snS_r {sn p : Int} (h : 1 ≤ sn ∧ sn ≤ 12) : p ≤ snS sn p ∧ snS sn p ≤ p + 11 := by
  have := emod_r (p := p) (sn := sn) (by omega)
  unfold snS
  split
  · omega
  · split <;> omega
def gpS (sn e w : Int) : Int := snS sn (e + if 0 < w then w else 0) - e
theorem gpS_r {sn e w : Int} (h : 1 ≤ sn ∧ sn ≤ 12) : 0 ≤ gpS sn e w ∧ gpS sn e w ≤ (if 0 < w then w else 0) + 11 := by
  have := snS_r (p := e + if 0 < w then w else 0) h
  have hz : 0 ≤ (if 0 < w then w else 0) := by split <;> omega
  unfold gpS
  generalize (if 0 < w then w else 0) = z at *
  omega
def shS (wa ar : Int) : Int := (if wa < ar then ar - wa else wa - ar) * 100 / wa
theorem shS_r {wa ar : Int} (hw : 10 ≤ wa ∧ wa ≤ 300) (ha : 0 ≤ ar ∧ ar ≤ 400) : 0 ≤ shS wa ar ∧ shS wa ar ≤ 40000 := by
  have h1 : 0 ≤ (if wa < ar then ar - wa else wa - ar) * 100 := by split <;> omega
  have h2 : (if wa < ar then ar - wa else wa - ar) * 100 ≤ 40000 := by split <;> omega
  have h3 := Int.ediv_nonneg h1 (show 0 ≤ wa by omega)
  have h4 := Int.ediv_le_self wa h1
  unfold shS
  omega
def jnZ (D : Int → Int) (a b : Int) : Int → Int := fun q => D (10 * ((3 * a + 1) % 4) + q) + D (10 * (b % 4) + q)
def edZ (br : Int) : Int → Int := fun i => bIn (i / 10) (i % 10) br
theorem edZ_r {br i : Int} (hb : 0 ≤ br) : 0 ≤ edZ br i ∧ edZ br i ≤ 4 := bIn_r _ _ _ (by omega) hb
theorem jnZ_r {D : Int → Int} {a b q : Int} (hD : ∀ i : Int, 0 ≤ i → i < 40 → 0 ≤ D i ∧ D i ≤ 4) (hq : 0 ≤ q ∧ q < 10) : 0 ≤ jnZ D a b q ∧ jnZ D a b q ≤ 8 := by
  have h1 := hD (10 * ((3 * a + 1) % 4) + q) (by omega) (by omega)
  have h2 := hD (10 * (b % 4) + q) (by omega) (by omega)
  unfold jnZ
  omega
theorem jnZ_ed {br a b q : Int} (hq : 0 ≤ q ∧ q < 10) : jnZ (edZ br) a b q = bIn ((3 * a + 1) % 4) q br + bIn (b % 4) q br := by
  unfold jnZ edZ
  have e1 : (10 * ((3 * a + 1) % 4) + q) / 10 = (3 * a + 1) % 4 := by omega
  have e2 : (10 * ((3 * a + 1) % 4) + q) % 10 = q := by omega
  have e3 : (10 * (b % 4) + q) / 10 = b % 4 := by omega
  have e4 : (10 * (b % 4) + q) % 10 = q := by omega
  rw [e1, e2, e3, e4]
/-! the line: E the settings, F the letters, K the kerns, n how many items -/
def okE (E : Int → Int) : Prop := ∀ j : Int, 0 ≤ j → j < 6 → zLs j ≤ E j ∧ E j ≤ zMs j
def okF (F : Int → Int) (n : Int) : Prop := ∀ j : Int, 0 ≤ j → j < n → -1 ≤ F j ∧ F j < 26
def okK (K : Int → Int) (n : Int) : Prop := ∀ j : Int, 0 ≤ j → j < n → -5 ≤ K j ∧ K j ≤ 5
theorem okE_0 {E : Int → Int} (h : okE E) : 0 ≤ E 0 ∧ E 0 ≤ 4 := h 0 (by omega) (by omega)
theorem okE_1 {E : Int → Int} (h : okE E) : 5 ≤ E 1 ∧ E 1 ≤ 40 := h 1 (by omega) (by omega)
theorem okE_2 {E : Int → Int} (h : okE E) : 1 ≤ E 2 ∧ E 2 ≤ 30 := h 2 (by omega) (by omega)
theorem okE_3 {E : Int → Int} (h : okE E) : 10 ≤ E 3 ∧ E 3 ≤ 300 := h 3 (by omega) (by omega)
theorem okE_4 {E : Int → Int} (h : okE E) : 1 ≤ E 4 ∧ E 4 ≤ 12 := h 4 (by omega) (by omega)
theorem okE_5 {E : Int → Int} (h : okE E) : 0 ≤ E 5 ∧ E 5 ≤ 100 := h 5 (by omega) (by omega)
theorem okE_u {E : Int → Int} {s v : Int} (h : okE E) (hv : zLs s ≤ v ∧ v ≤ zMs s) : okE (uZ E s v) := by
  intro j h0 h1
  unfold uZ
  split
  · rename_i e; rw [e]; exact hv
  · exact h j h0 h1
theorem okE_m {E : Int → Int} {s v : Int} (h : okE E) (hs : s < 0) : okE (uZ E s v) := by
  intro j h0 h1
  unfold uZ
  rw [if_neg (by omega)]
  exact h j h0 h1
theorem letA_r {F : Int → Int} {n j : Int} (h : okF F n) : -1 ≤ letA F n j ∧ letA F n j < 26 := by
  unfold letA
  split
  · rename_i e; exact h j e.1 e.2
  · omega
def prS (F : Int → Int) (n p : Int) : Bool := decide (letA F n (p - 1) ≠ -1 ∧ letA F n p ≠ -1)
theorem prS_t {F : Int → Int} {n p : Int} : prS F n p = true ↔ (letA F n (p - 1) ≠ -1 ∧ letA F n p ≠ -1) := by unfold prS; rw [decide_eq_true_iff]
theorem prS_f {F : Int → Int} {n p : Int} : prS F n p = false ↔ (letA F n (p - 1) = -1 ∨ letA F n p = -1) := by
  unfold prS
  rw [decide_eq_false_iff_not]
  omega
def inS (E F : Int → Int) (n p : Int) : Int → Int := fun q => bIn ((3 * letA F n (p - 1) + 1) % 4) q (E 0) + bIn (letA F n p % 4) q (E 0)
theorem inS_r {E F : Int → Int} {n p q : Int} (hE : okE E) (hq : 0 ≤ q ∧ q < 10) : 0 ≤ inS E F n p q ∧ inS E F n p q ≤ 8 := by
  have h0 := okE_0 hE
  have h1 := bIn_r ((3 * letA F n (p - 1) + 1) % 4) q (E 0) hq h0.1
  have h2 := bIn_r (letA F n p % 4) q (E 0) hq h0.1
  unfold inS
  omega
def lgP (E F : Int → Int) (n p : Int) : Int := lgS (inS E F n p) (E 1) (E 3)
def gpP (E F K : Int → Int) (n p w : Int) : Int := gpS (E 4) w (lgP E F n p + K p)
def bgP (E F K : Int → Int) (n p w : Int) : Int := if prS F n p = true then w + gpP E F K n p w else if letA F n p = -1 ∨ p = 0 then w else snS (E 4) w
def wdP (E F : Int → Int) (n p : Int) : Int := if letA F n p = -1 then E 2 else wdI (letA F n p)
def enS (E F K : Int → Int) (n : Int) : Nat → Int
  | 0 => 0
  | i + 1 => bgP E F K n i (enS E F K n i) + wdP E F n i
def enA (E F K : Int → Int) (n p : Int) : Int := enS E F K n p.toNat
theorem enA_0 (E F K : Int → Int) (n : Int) : enA E F K n 0 = 0 := rfl
theorem enA_s (E F K : Int → Int) (n : Int) {p : Int} (h : 0 ≤ p) : enA E F K n (p + 1) = bgP E F K n p (enA E F K n p) + wdP E F n p := by
  have e : (p + 1).toNat = p.toNat + 1 := by omega
  unfold enA
  rw [e]
  show bgP E F K n (p.toNat : Int) (enS E F K n p.toNat) + wdP E F n (p.toNat : Int) = _
  rw [Int.toNat_of_nonneg h]
theorem gpP_r {E F K : Int → Int} {n p w : Int} (hE : okE E) (hK : okK K n) (hp : 0 ≤ p ∧ p < n) : 0 ≤ gpP E F K n p w ∧ gpP E F K n p w ≤ 56 := by
  have h4 := okE_4 hE
  have hl := lgS_r (inS E F n p) (E 1) (E 3)
  have hk := hK p hp.1 hp.2
  have := gpS_r (e := w) (w := lgP E F n p + K p) h4
  unfold gpP
  unfold lgP at *
  split at this <;> omega
theorem wdI_r {x : Int} (h : 0 ≤ x) : 6 ≤ wdI x ∧ wdI x ≤ 14 := by unfold wdI; omega
theorem wdP_r {E F : Int → Int} {n p : Int} (hE : okE E) (hF : okF F n) : 1 ≤ wdP E F n p ∧ wdP E F n p ≤ 30 := by
  have h2 := okE_2 hE
  have hl := letA_r (j := p) hF
  unfold wdP
  split
  · exact h2
  · have := wdI_r (x := letA F n p) (by omega)
    omega
theorem bgP_r {E F K : Int → Int} {n p w : Int} (hE : okE E) (hK : okK K n) (hp : 0 ≤ p ∧ p < n) : w ≤ bgP E F K n p w ∧ bgP E F K n p w ≤ w + 56 := by
  have h1 := gpP_r (F := F) (w := w) hE hK hp
  have h2 := snS_r (p := w) (okE_4 hE)
  unfold bgP
  split
  · omega
  · split <;> omega
theorem enS_r {E F K : Int → Int} {n : Int} (hE : okE E) (hF : okF F n) (hK : okK K n) : ∀ i : Nat, (i : Int) ≤ n → 0 ≤ enS E F K n i ∧ enS E F K n i ≤ 100 * i
  | 0, _ => by simp [enS]
  | i + 1, h => by
    have h1 := enS_r hE hF hK i (by omega)
    have h2 := bgP_r (F := F) (w := enS E F K n i) (p := (i : Int)) hE hK (by omega)
    have h3 := wdP_r (p := (i : Int)) hE hF
    show 0 ≤ bgP E F K n i (enS E F K n i) + wdP E F n i ∧ bgP E F K n i (enS E F K n i) + wdP E F n i ≤ 100 * ((i + 1 : Nat) : Int)
    omega
theorem enA_r {E F K : Int → Int} {n p : Int} (hE : okE E) (hF : okF F n) (hK : okK K n) (hp : 0 ≤ p ∧ p ≤ n) : 0 ≤ enA E F K n p ∧ enA E F K n p ≤ 100 * p := by
  have := enS_r hE hF hK p.toNat (by omega)
  unfold enA
  omega
def agP (E F K : Int → Int) (n p w : Int) : Int := arS (inS E F n p) (E 1) (gpP E F K n p w)
def ahP (E F K : Int → Int) (n p w : Int) : Int := shS (E 3) (agP E F K n p w)
def grP (E F K : Int → Int) (n p w : Int) : Int := if prS F n p = true then gpP E F K n p w else -1
def arP (E F K : Int → Int) (n p w : Int) : Int := if prS F n p = true then agP E F K n p w else -1
def shP (E F K : Int → Int) (n p w : Int) : Int := if prS F n p = true then ahP E F K n p w else -1
def psP (F : Int → Int) (n p : Int) : Int := if prS F n p = true then 1 else 0
def fsP (E F K : Int → Int) (n p w : Int) : Int := if prS F n p = true then (if E 5 < ahP E F K n p w then 1 else 0) else 0
theorem agP_r {E F K : Int → Int} {n p w : Int} (hE : okE E) (hK : okK K n) (hp : 0 ≤ p ∧ p < n) : 0 ≤ agP E F K n p w ∧ agP E F K n p w ≤ 400 := by
  have h1 := gpP_r (F := F) (w := w) hE hK hp
  have h2 := okE_1 hE
  have h3 := arS_r (N := inS E F n p) (rl := E 1) (fun q h0 h1 => inS_r hE ⟨h0, h1⟩) h1.1 (by omega)
  unfold agP
  omega
theorem ahP_r {E F K : Int → Int} {n p w : Int} (hE : okE E) (hK : okK K n) (hp : 0 ≤ p ∧ p < n) : 0 ≤ ahP E F K n p w ∧ ahP E F K n p w ≤ 40000 := shS_r (okE_3 hE) (agP_r hE hK hp)
def bgA (E F K : Int → Int) (n : Int) : Int → Int := fun p => bgP E F K n p (enA E F K n p)
def gpA (E F K : Int → Int) (n : Int) : Int → Int := fun p => grP E F K n p (enA E F K n p)
def arA (E F K : Int → Int) (n : Int) : Int → Int := fun p => arP E F K n p (enA E F K n p)
def shA (E F K : Int → Int) (n : Int) : Int → Int := fun p => shP E F K n p (enA E F K n p)
def psF (F : Int → Int) (n : Int) : Int → Int := fun p => psP F n p
def fsF (E F K : Int → Int) (n : Int) : Int → Int := fun p => fsP E F K n p (enA E F K n p)
theorem hX0_snapped_X0 : ∀ w ∈ wsX00, w ∈ wsX0_snapped := by decide +kernel
theorem kX0_snapped_f61 : Cond.fieldLink RX0 61 "SignLetters$Layout" "snap" "I" ∈ wsX0_snapped := by decide +kernel
set_option maxHeartbeats 400000 in
set_option maxRecDepth 100000 in
theorem mX0_snapped (G : ZG) (y : Nat) (ys : Nat) (yb : Nat) (ye : Nat) (yl : Nat) (yg : Nat) (ya : Nat) (yh : Nat) (yd : Nat) (yi : Nat) (im : Int) (ps : Int) (fs : Int) (wd : Int) (rl : Int) (wa : Int) (sn : Int) (al : Int) (p : Int) (hs : 1 ≤ sn ∧ sn ≤ 12) (hp : 0 ≤ p ∧ p ≤ 100000) : zMeti yX0_snapped wsX0_snapped { frames := 0, cells := 0, slots := 0, locals := 0 } G [.ref y, .int (iI (p))] [(y, .inr (0, [.ref ys, .ref yb, .ref ye, .ref yl, .ref yg, .ref ya, .ref yh, .ref yd, .ref yi, .int (iI (im)), .int (iI (ps)), .int (iI (fs)), .int (iI (wd)), .int (iI (rl)), .int (iI (wa)), .int (iI (sn)), .int (iI (al))]))] (fun (rr : Int32) (uu : Unit) => rr = iI (snS sn p)) (fun (uu : Unit) => [(y, .inr (0, [.ref ys, .ref yb, .ref ye, .ref yl, .ref yg, .ref ya, .ref yh, .ref yd, .ref yi, .int (iI (im)), .int (iI (ps)), .int (iI (fs)), .int (iI (wd)), .int (iI (rl)), .int (iI (wa)), .int (iI (sn)), .int (iI (al))]))]) 0 0 := by
  refine z_meti (cc := cX0_snapped) (nL := 3) (rt := .int) (by decide +kernel) rfl (Nat.le_of_ble_eq_true rfl) (fun X hX ex => ?_)
  have hX : ZOk G X 3 cX0_snapped RX0 wsX0_snapped { frames := 0, cells := 0, slots := 0, locals := 0 } := hX
  show Z G X 3 (0) (0) [(y, .inr (0, [.ref ys, .ref yb, .ref ye, .ref yl, .ref yg, .ref ya, .ref yh, .ref yd, .ref yi, .int (iI (im)), .int (iI (ps)), .int (iI (fs)), .int (iI (wd)), .int (iI (rl)), .int (iI (wa)), .int (iI (sn)), .int (iI (al))]))] 0 [(0, .ref y), (1, .int (iI (p)))] []
  have hm := emod_r (p := p) (sn := sn) (by omega)
  refine z_aload_n (pc := 0) hX 0 rfl rfl dX0_snapped_0 ?_
  refine z_get (pc := 1) hX (T := TX0) (C := RX0) (N := 17) (i := 61) (ref := "SignLetters$Layout") (name := "snap") (desc := "I") hX0_snapped_X0 0 rfl rfl 15 (by decide) kX0_snapped_f61 ⟨rfl, rfl, rfl⟩ (v := .int (iI (sn))) rfl dX0_snapped_1 ?_
  refine z_iconst (pc := 4) hX dX0_snapped_4 ?_
  refine z_icmp_gt (pc := 5) (tgt := 10) hX (by decide) (by omega) (by omega) dX0_snapped_5 (fun c_1 => ?_) (fun c_1 => ?_)
  · refine z_iload_n (pc := 10) hX 1 rfl rfl dX0_snapped_10 ?_
    refine z_aload_n (pc := 11) hX 0 rfl rfl dX0_snapped_11 ?_
    refine z_get (pc := 12) hX (T := TX0) (C := RX0) (N := 17) (i := 61) (ref := "SignLetters$Layout") (name := "snap") (desc := "I") hX0_snapped_X0 0 rfl rfl 15 (by decide) kX0_snapped_f61 ⟨rfl, rfl, rfl⟩ (v := .int (iI (sn))) rfl dX0_snapped_12 ?_
    refine z_irem (pc := 15) hX (by omega) (by omega) dX0_snapped_15 ?_
    refine z_istore_n (pc := 16) hX (loc' := [(2, .int (iI (p % sn))), (0, .ref y), (1, .int (iI (p)))]) rfl (by decide) rfl dX0_snapped_16 ?_
    refine z_iload_n (pc := 17) hX 0 rfl rfl dX0_snapped_17 ?_
    refine z_if_ne (pc := 18) (tgt := 25) hX (by decide) (by omega) dX0_snapped_18 (fun c_2 => ?_) (fun c_2 => ?_)
    · refine z_iload_n (pc := 25) hX 2 rfl rfl dX0_snapped_25 ?_
      refine z_aload_n (pc := 26) hX 1 rfl rfl dX0_snapped_26 ?_
      refine z_get (pc := 27) hX (T := TX0) (C := RX0) (N := 17) (i := 61) (ref := "SignLetters$Layout") (name := "snap") (desc := "I") hX0_snapped_X0 0 rfl rfl 15 (by decide) kX0_snapped_f61 ⟨rfl, rfl, rfl⟩ (v := .int (iI (sn))) rfl dX0_snapped_27 ?_
      refine z_iadd (pc := 30) hX dX0_snapped_30 ?_
      refine z_iload_n (pc := 31) hX 0 rfl rfl dX0_snapped_31 ?_
      refine z_isub (pc := 32) hX dX0_snapped_32 ?_
      exact ex _ _ _ () _ dX0_snapped_33 rfl (congrArg iI (show ((p + sn) - (p % sn) : Int) = snS sn p from by clear ex hX; unfold snS; grind)) rfl
    · refine z_iload_n (pc := 21) hX 2 rfl rfl dX0_snapped_21 ?_
      refine z_goto (pc := 22) (tgt := 33) hX (by decide) dX0_snapped_22 ?_
      exact ex _ _ _ () _ dX0_snapped_33 rfl (congrArg iI (show (p : Int) = snS sn p from by clear ex hX; unfold snS; grind)) rfl
  · refine z_iload_n (pc := 8) hX 1 rfl rfl dX0_snapped_8 ?_
    exact ex _ _ _ () _ dX0_snapped_9 rfl (congrArg iI (show (p : Int) = snS sn p from by clear ex hX; unfold snS; grind)) rfl
theorem hdX0_snapped : yX0_snapped.cls ≠ "java/lang/invoke/MethodHandle" ∧ yX0_snapped.cls ≠ "java/lang/invoke/VarHandle" ∧ (parseMethodDescriptor yX0_snapped.desc).map (fun d => d.parameters.length) = some 1 := by decide +kernel
set_option maxHeartbeats 400000 in
set_option maxRecDepth 100000 in
theorem mX0_gapBehind (G : ZG) (y : Nat) (ys : Nat) (yb : Nat) (ye : Nat) (yl : Nat) (yg : Nat) (ya : Nat) (yh : Nat) (yd : Nat) (yi : Nat) (im : Int) (ps : Int) (fs : Int) (wd : Int) (rl : Int) (wa : Int) (sn : Int) (al : Int) (e : Int) (w : Int) (hs : 1 ≤ sn ∧ sn ≤ 12) (he : 0 ≤ e ∧ e ≤ 10000) (hw : -1000 ≤ w ∧ w ≤ 1000) : zMeti yX0_gapBehind wsX0_gapBehind { frames := 1, cells := 0, slots := 0, locals := 22 } G [.ref y, .int (iI (e)), .int (iI (w))] [(y, .inr (0, [.ref ys, .ref yb, .ref ye, .ref yl, .ref yg, .ref ya, .ref yh, .ref yd, .ref yi, .int (iI (im)), .int (iI (ps)), .int (iI (fs)), .int (iI (wd)), .int (iI (rl)), .int (iI (wa)), .int (iI (sn)), .int (iI (al))]))] (fun (rr : Int32) (uu : Unit) => rr = iI (gpS sn e w)) (fun (uu : Unit) => [(y, .inr (0, [.ref ys, .ref yb, .ref ye, .ref yl, .ref yg, .ref ya, .ref yh, .ref yd, .ref yi, .int (iI (im)), .int (iI (ps)), .int (iI (fs)), .int (iI (wd)), .int (iI (rl)), .int (iI (wa)), .int (iI (sn)), .int (iI (al))]))]) 0 0 := by
  refine z_meti (cc := cX0_gapBehind) (nL := 3) (rt := .int) (by decide +kernel) rfl (Nat.le_of_ble_eq_true rfl) (fun X hX ex => ?_)
  have hX : ZOk G X 3 cX0_gapBehind RX0 wsX0_gapBehind { frames := 1, cells := 0, slots := 0, locals := 22 } := hX
  show Z G X 3 (0) (0) [(y, .inr (0, [.ref ys, .ref yb, .ref ye, .ref yl, .ref yg, .ref ya, .ref yh, .ref yd, .ref yi, .int (iI (im)), .int (iI (ps)), .int (iI (fs)), .int (iI (wd)), .int (iI (rl)), .int (iI (wa)), .int (iI (sn)), .int (iI (al))]))] 0 [(0, .ref y), (1, .int (iI (e))), (2, .int (iI (w)))] []
  refine z_aload_n (pc := 0) hX 0 rfl rfl dX0_gapBehind_0 ?_
  refine z_iload_n (pc := 1) hX 1 rfl rfl dX0_gapBehind_1 ?_
  refine z_iload_n (pc := 2) hX 2 rfl rfl dX0_gapBehind_2 ?_
  refine z_if_le (pc := 3) (tgt := 10) hX (by decide) (by omega) dX0_gapBehind_3 (fun c_1 => ?_) (fun c_1 => ?_)
  · refine z_iconst (pc := 10) hX dX0_gapBehind_10 ?_
    refine z_iadd (pc := 11) hX dX0_gapBehind_11 ?_
    refine z_callV_i (pc := 12) (As := [.int (iI (e + 0))]) (rest := []) (wc := [(y, .inr (0, [.ref ys, .ref yb, .ref ye, .ref yl, .ref yg, .ref ya, .ref yh, .ref yd, .ref yi, .int (iI (im)), .int (iI (ps)), .int (iI (fs)), .int (iI (wd)), .int (iI (rl)), .int (iI (wa)), .int (iI (sn)), .int (iI (al))]))]) (wr := []) hX (mX0_snapped G (y) (ys) (yb) (ye) (yl) (yg) (ya) (yh) (yd) (yi) (im) (ps) (fs) (wd) (rl) (wa) (sn) (al) (e + 0) (by first | assumption | omega | (clear ex hX; grind [uZ])) (by first | assumption | omega | (clear ex hX; grind [uZ]))) rfl rfl rfl (C := RX0) gX0_gapBehind_X0_snapped ⟨rfl, hdX0_snapped⟩ (T := TX0) (N := 17) 0 rfl rfl ⟨Nat.le_of_ble_eq_true rfl, Nat.le_of_ble_eq_true rfl⟩ [0] [] rfl rfl (by decide) (by decide) (by decide) rfl (Nat.le_of_ble_eq_true rfl) ⟨Nat.le_of_ble_eq_true rfl, Nat.le_of_ble_eq_true rfl⟩ dX0_gapBehind_12 (fun r_2 u_2 h_2 => ?_)
    subst h_2
    show Z G X 3 (0) (0) [(y, .inr (0, [.ref ys, .ref yb, .ref ye, .ref yl, .ref yg, .ref ya, .ref yh, .ref yd, .ref yi, .int (iI (im)), .int (iI (ps)), .int (iI (fs)), .int (iI (wd)), .int (iI (rl)), .int (iI (wa)), .int (iI (sn)), .int (iI (al))]))] 15 [(0, .ref y), (1, .int (iI (e))), (2, .int (iI (w)))] [.int (iI (snS sn (e + 0)))]
    refine z_iload_n (pc := 15) hX 1 rfl rfl dX0_gapBehind_15 ?_
    refine z_isub (pc := 16) hX dX0_gapBehind_16 ?_
    exact ex _ _ _ () _ dX0_gapBehind_17 rfl (congrArg iI (show ((snS sn (e + 0)) - e : Int) = gpS sn e w from by clear ex hX; unfold gpS; first | omega | grind)) rfl
  · refine z_iload_n (pc := 6) hX 2 rfl rfl dX0_gapBehind_6 ?_
    refine z_goto (pc := 7) (tgt := 11) hX (by decide) dX0_gapBehind_7 ?_
    refine z_iadd (pc := 11) hX dX0_gapBehind_11 ?_
    refine z_callV_i (pc := 12) (As := [.int (iI (e + w))]) (rest := []) (wc := [(y, .inr (0, [.ref ys, .ref yb, .ref ye, .ref yl, .ref yg, .ref ya, .ref yh, .ref yd, .ref yi, .int (iI (im)), .int (iI (ps)), .int (iI (fs)), .int (iI (wd)), .int (iI (rl)), .int (iI (wa)), .int (iI (sn)), .int (iI (al))]))]) (wr := []) hX (mX0_snapped G (y) (ys) (yb) (ye) (yl) (yg) (ya) (yh) (yd) (yi) (im) (ps) (fs) (wd) (rl) (wa) (sn) (al) (e + w) (by first | assumption | omega | (clear ex hX; grind [uZ])) (by first | assumption | omega | (clear ex hX; grind [uZ]))) rfl rfl rfl (C := RX0) gX0_gapBehind_X0_snapped ⟨rfl, hdX0_snapped⟩ (T := TX0) (N := 17) 0 rfl rfl ⟨Nat.le_of_ble_eq_true rfl, Nat.le_of_ble_eq_true rfl⟩ [0] [] rfl rfl (by decide) (by decide) (by decide) rfl (Nat.le_of_ble_eq_true rfl) ⟨Nat.le_of_ble_eq_true rfl, Nat.le_of_ble_eq_true rfl⟩ dX0_gapBehind_12 (fun r_3 u_3 h_3 => ?_)
    subst h_3
    show Z G X 3 (0) (0) [(y, .inr (0, [.ref ys, .ref yb, .ref ye, .ref yl, .ref yg, .ref ya, .ref yh, .ref yd, .ref yi, .int (iI (im)), .int (iI (ps)), .int (iI (fs)), .int (iI (wd)), .int (iI (rl)), .int (iI (wa)), .int (iI (sn)), .int (iI (al))]))] 15 [(0, .ref y), (1, .int (iI (e))), (2, .int (iI (w)))] [.int (iI (snS sn (e + w)))]
    refine z_iload_n (pc := 15) hX 1 rfl rfl dX0_gapBehind_15 ?_
    refine z_isub (pc := 16) hX dX0_gapBehind_16 ?_
    exact ex _ _ _ () _ dX0_gapBehind_17 rfl (congrArg iI (show ((snS sn (e + w)) - e : Int) = gpS sn e w from by clear ex hX; unfold gpS; first | omega | grind)) rfl
theorem hX0_areaBy_X0 : ∀ w ∈ wsX00, w ∈ wsX0_areaBy := by decide +kernel
theorem kX0_areaBy_f36 : Cond.fieldLink RX0 36 "SignLetters$Layout" "indents" "[I" ∈ wsX0_areaBy := by decide +kernel
theorem kX0_areaBy_f54 : Cond.fieldLink RX0 54 "SignLetters$Layout" "rowLimit" "I" ∈ wsX0_areaBy := by decide +kernel
set_option maxHeartbeats 400000 in
set_option maxRecDepth 100000 in
theorem mX0_areaBy (G : ZG) (y : Nat) (ys : Nat) (yb : Nat) (ye : Nat) (yl : Nat) (yg : Nat) (ya : Nat) (yh : Nat) (yd : Nat) (yi : Nat) (im : Int) (ps : Int) (fs : Int) (wd : Int) (rl : Int) (wa : Int) (sn : Int) (al : Int) (N : Int → Int) (g : Int) (hN : ∀ q : Int, 0 ≤ q → q < 10 → 0 ≤ N q ∧ N q ≤ 8) (hg : 0 ≤ g ∧ g ≤ 1000) (hr : 0 ≤ rl ∧ rl ≤ 40) : zMeti yX0_areaBy wsX0_areaBy { frames := 0, cells := 0, slots := 0, locals := 0 } G [.ref y, .int (iI (g))] [(y, .inr (0, [.ref ys, .ref yb, .ref ye, .ref yl, .ref yg, .ref ya, .ref yh, .ref yd, .ref yi, .int (iI (im)), .int (iI (ps)), .int (iI (fs)), .int (iI (wd)), .int (iI (rl)), .int (iI (wa)), .int (iI (sn)), .int (iI (al))])), (yi, zI G 10 (N))] (fun (rr : Int32) (uu : Unit) => rr = iI (arS N rl g)) (fun (uu : Unit) => [(y, .inr (0, [.ref ys, .ref yb, .ref ye, .ref yl, .ref yg, .ref ya, .ref yh, .ref yd, .ref yi, .int (iI (im)), .int (iI (ps)), .int (iI (fs)), .int (iI (wd)), .int (iI (rl)), .int (iI (wa)), .int (iI (sn)), .int (iI (al))])), (yi, zI G 10 (N))]) 0 0 := by
  refine z_meti (cc := cX0_areaBy) (nL := 5) (rt := .int) (by decide +kernel) rfl (Nat.le_of_ble_eq_true rfl) (fun X hX ex => ?_)
  have hX : ZOk G X 5 cX0_areaBy RX0 wsX0_areaBy { frames := 0, cells := 0, slots := 0, locals := 0 } := hX
  show Z G X 5 (0) (0) [(y, .inr (0, [.ref ys, .ref yb, .ref ye, .ref yl, .ref yg, .ref ya, .ref yh, .ref yd, .ref yi, .int (iI (im)), .int (iI (ps)), .int (iI (fs)), .int (iI (wd)), .int (iI (rl)), .int (iI (wa)), .int (iI (sn)), .int (iI (al))])), (yi, zI G 10 (N))] 0 [(0, .ref y), (1, .int (iI (g)))] []
  refine z_iconst (pc := 0) hX dX0_areaBy_0 ?_
  refine z_istore_n (pc := 1) hX (loc' := [(2, .int (iI (0))), (0, .ref y), (1, .int (iI (g)))]) rfl (by decide) rfl dX0_areaBy_1 ?_
  refine z_iconst (pc := 2) hX dX0_areaBy_2 ?_
  refine z_istore_n (pc := 3) hX (loc' := [(3, .int (iI (0))), (2, .int (iI (0))), (0, .ref y), (1, .int (iI (g)))]) rfl (by decide) rfl dX0_areaBy_3 ?_
  have cut_4 : ∀ (fz : Nat) (i : Int) (c : Int) (h0 : 0 ≤ i) (h1 : i ≤ 10) (hc : c = sumZ (arF N rl g) i.toNat) (hm_4 : 10 - i < (fz : Int)), Z G X 5 (0) (0) [(y, .inr (0, [.ref ys, .ref yb, .ref ye, .ref yl, .ref yg, .ref ya, .ref yh, .ref yd, .ref yi, .int (iI (im)), .int (iI (ps)), .int (iI (fs)), .int (iI (wd)), .int (iI (rl)), .int (iI (wa)), .int (iI (sn)), .int (iI (al))])), (yi, zI G 10 (N))] 4 [(0, .ref y), (1, .int (iI (g))), (2, .int (iI (c))), (3, .int (iI (i)))] [] := by
    intro fz
    induction fz with
    | zero =>
      intro i c h0 h1 hc hm_4
      exfalso
      omega
    | succ fz ih =>
      intro i c h0 h1 hc hm_4
      have ih_4 := ih
      clear ih
      refine z_iload_n (pc := 4) hX 3 rfl rfl dX0_areaBy_4 ?_
      refine z_aload_n (pc := 5) hX 0 rfl rfl dX0_areaBy_5 ?_
      refine z_get (pc := 6) hX (T := TX0) (C := RX0) (N := 17) (i := 36) (ref := "SignLetters$Layout") (name := "indents") (desc := "[I") hX0_areaBy_X0 0 rfl rfl 8 (by decide) kX0_areaBy_f36 ⟨rfl, rfl, rfl⟩ (v := .ref yi) rfl dX0_areaBy_6 ?_
      refine z_alen (pc := 9) hX (z := 10) 1 rfl rfl dX0_areaBy_9 ?_
      refine z_icmp_ge (pc := 10) (tgt := 50) hX (by decide) (by omega) (by omega) dX0_areaBy_10 (fun c_1 => ?_) (fun c_1 => ?_)
      · refine z_iload_n (pc := 50) hX 2 rfl rfl dX0_areaBy_50 ?_
        exact ex _ _ _ () _ dX0_areaBy_51 rfl (congrArg iI (show (c : Int) = arS N rl g from by rw [hc, show i = 10 by omega]; rfl)) rfl
      · have hNi := hN i h0 (by omega)
        refine z_iload_n (pc := 13) hX 1 rfl rfl dX0_areaBy_13 ?_
        refine z_aload_n (pc := 14) hX 0 rfl rfl dX0_areaBy_14 ?_
        refine z_get (pc := 15) hX (T := TX0) (C := RX0) (N := 17) (i := 36) (ref := "SignLetters$Layout") (name := "indents") (desc := "[I") hX0_areaBy_X0 0 rfl rfl 8 (by decide) kX0_areaBy_f36 ⟨rfl, rfl, rfl⟩ (v := .ref yi) rfl dX0_areaBy_15 ?_
        refine z_iload_n (pc := 18) hX 3 rfl rfl dX0_areaBy_18 ?_
        refine z_iald (pc := 19) hX (N := 10) (F := N) 1 rfl (by omega) (by omega) dX0_areaBy_19 ?_
        refine z_iadd (pc := 20) hX dX0_areaBy_20 ?_
        refine z_istore (pc := 21) hX (loc' := [(4, .int (iI (g + (N i)))), (0, .ref y), (1, .int (iI (g))), (2, .int (iI (c))), (3, .int (iI (i)))]) (by decide) rfl dX0_areaBy_21 ?_
        refine z_iload_n (pc := 23) hX 3 rfl rfl dX0_areaBy_23 ?_
        refine z_iload (pc := 24) hX 0 rfl dX0_areaBy_24 ?_
        refine z_aload_n (pc := 26) hX 1 rfl rfl dX0_areaBy_26 ?_
        refine z_get (pc := 27) hX (T := TX0) (C := RX0) (N := 17) (i := 54) (ref := "SignLetters$Layout") (name := "rowLimit") (desc := "I") hX0_areaBy_X0 0 rfl rfl 13 (by decide) kX0_areaBy_f54 ⟨rfl, rfl, rfl⟩ (v := .int (iI (rl))) rfl dX0_areaBy_27 ?_
        refine z_icmp_ge (pc := 30) (tgt := 38) hX (by decide) (by omega) (by omega) dX0_areaBy_30 (fun c_2 => ?_) (fun c_2 => ?_)
        · refine z_aload_n (pc := 38) hX 1 rfl rfl dX0_areaBy_38 ?_
          refine z_get (pc := 39) hX (T := TX0) (C := RX0) (N := 17) (i := 54) (ref := "SignLetters$Layout") (name := "rowLimit") (desc := "I") hX0_areaBy_X0 0 rfl rfl 13 (by decide) kX0_areaBy_f54 ⟨rfl, rfl, rfl⟩ (v := .int (iI (rl))) rfl dX0_areaBy_39 ?_
          refine z_iadd (pc := 42) hX dX0_areaBy_42 ?_
          refine z_istore_n (pc := 43) hX (loc' := [(2, .int (iI (c + rl))), (4, .int (iI (g + (N i)))), (0, .ref y), (1, .int (iI (g))), (3, .int (iI (i)))]) rfl (by decide) rfl dX0_areaBy_43 ?_
          refine z_iinc (pc := 44) hX (loc' := [(3, .int (iI (i + 1))), (2, .int (iI (c + rl))), (4, .int (iI (g + (N i)))), (0, .ref y), (1, .int (iI (g)))]) 4 rfl (by decide) rfl dX0_areaBy_44 ?_
          refine z_goto (pc := 47) (tgt := 4) hX (by decide) dX0_areaBy_47 ?_
          refine z_at [3, 4, 1, 0] [0, 1] (loc' := [(0, .ref y), (1, .int (iI (g))), (2, .int (iI ((c + rl)))), (3, .int (iI ((i + 1))))]) (WS' := [(y, .inr (0, [.ref ys, .ref yb, .ref ye, .ref yl, .ref yg, .ref ya, .ref yh, .ref yd, .ref yi, .int (iI (im)), .int (iI (ps)), .int (iI (fs)), .int (iI (wd)), .int (iI (rl)), .int (iI (wa)), .int (iI (sn)), .int (iI (al))])), (yi, zI G 10 (N))]) rfl (by decide) rfl ?_
          exact ih_4 (i + 1) (c + rl) (by first | assumption | omega | (clear ex hX ih_4; grind [uZ])) (by first | assumption | omega | (clear ex hX ih_4; grind [uZ])) (by rw [sumZ_s _ h0, hc]; clear ih_4 ex hX; unfold arF; grind) (by omega)
        · refine z_iload (pc := 33) hX 0 rfl dX0_areaBy_33 ?_
          refine z_goto (pc := 35) (tgt := 42) hX (by decide) dX0_areaBy_35 ?_
          refine z_iadd (pc := 42) hX dX0_areaBy_42 ?_
          refine z_istore_n (pc := 43) hX (loc' := [(2, .int (iI (c + (g + (N i))))), (4, .int (iI (g + (N i)))), (0, .ref y), (1, .int (iI (g))), (3, .int (iI (i)))]) rfl (by decide) rfl dX0_areaBy_43 ?_
          refine z_iinc (pc := 44) hX (loc' := [(3, .int (iI (i + 1))), (2, .int (iI (c + (g + (N i))))), (4, .int (iI (g + (N i)))), (0, .ref y), (1, .int (iI (g)))]) 4 rfl (by decide) rfl dX0_areaBy_44 ?_
          refine z_goto (pc := 47) (tgt := 4) hX (by decide) dX0_areaBy_47 ?_
          refine z_at [3, 4, 1, 0] [0, 1] (loc' := [(0, .ref y), (1, .int (iI (g))), (2, .int (iI ((c + (g + (N i)))))), (3, .int (iI ((i + 1))))]) (WS' := [(y, .inr (0, [.ref ys, .ref yb, .ref ye, .ref yl, .ref yg, .ref ya, .ref yh, .ref yd, .ref yi, .int (iI (im)), .int (iI (ps)), .int (iI (fs)), .int (iI (wd)), .int (iI (rl)), .int (iI (wa)), .int (iI (sn)), .int (iI (al))])), (yi, zI G 10 (N))]) rfl (by decide) rfl ?_
          exact ih_4 (i + 1) (c + (g + (N i))) (by first | assumption | omega | (clear ex hX ih_4; grind [uZ])) (by first | assumption | omega | (clear ex hX ih_4; grind [uZ])) (by rw [sumZ_s _ h0, hc]; clear ih_4 ex hX; unfold arF; grind) (by omega)
  refine z_at [2, 3, 1, 0] [0, 1] (loc' := [(0, .ref y), (1, .int (iI (g))), (2, .int (iI (0))), (3, .int (iI (0)))]) (WS' := [(y, .inr (0, [.ref ys, .ref yb, .ref ye, .ref yl, .ref yg, .ref ya, .ref yh, .ref yd, .ref yi, .int (iI (im)), .int (iI (ps)), .int (iI (fs)), .int (iI (wd)), .int (iI (rl)), .int (iI (wa)), .int (iI (sn)), .int (iI (al))])), (yi, zI G 10 (N))]) rfl (by decide) rfl ?_
  exact cut_4 (Int.toNat (10 - 0) + 1) (0) (0) (by first | assumption | omega | (clear ex hX cut_4; grind [uZ])) (by first | assumption | omega | (clear ex hX cut_4; grind [uZ])) (by rfl) (by omega)
theorem hX0_shareOf_X0 : ∀ w ∈ wsX00, w ∈ wsX0_shareOf := by decide +kernel
theorem kX0_shareOf_f58 : Cond.fieldLink RX0 58 "SignLetters$Layout" "wantedArea" "I" ∈ wsX0_shareOf := by decide +kernel
set_option maxHeartbeats 400000 in
set_option maxRecDepth 100000 in
theorem mX0_shareOf (G : ZG) (y : Nat) (ys : Nat) (yb : Nat) (ye : Nat) (yl : Nat) (yg : Nat) (ya : Nat) (yh : Nat) (yd : Nat) (yi : Nat) (im : Int) (ps : Int) (fs : Int) (wd : Int) (rl : Int) (wa : Int) (sn : Int) (al : Int) (a : Int) (hw : 10 ≤ wa ∧ wa ≤ 300) (ha : 0 ≤ a ∧ a ≤ 400) : zMeti yX0_shareOf wsX0_shareOf { frames := 0, cells := 0, slots := 0, locals := 0 } G [.ref y, .int (iI (a))] [(y, .inr (0, [.ref ys, .ref yb, .ref ye, .ref yl, .ref yg, .ref ya, .ref yh, .ref yd, .ref yi, .int (iI (im)), .int (iI (ps)), .int (iI (fs)), .int (iI (wd)), .int (iI (rl)), .int (iI (wa)), .int (iI (sn)), .int (iI (al))]))] (fun (rr : Int32) (uu : Unit) => rr = iI (shS wa a)) (fun (uu : Unit) => [(y, .inr (0, [.ref ys, .ref yb, .ref ye, .ref yl, .ref yg, .ref ya, .ref yh, .ref yd, .ref yi, .int (iI (im)), .int (iI (ps)), .int (iI (fs)), .int (iI (wd)), .int (iI (rl)), .int (iI (wa)), .int (iI (sn)), .int (iI (al))]))]) 0 0 := by
  refine z_meti (cc := cX0_shareOf) (nL := 3) (rt := .int) (by decide +kernel) rfl (Nat.le_of_ble_eq_true rfl) (fun X hX ex => ?_)
  have hX : ZOk G X 3 cX0_shareOf RX0 wsX0_shareOf { frames := 0, cells := 0, slots := 0, locals := 0 } := hX
  show Z G X 3 (0) (0) [(y, .inr (0, [.ref ys, .ref yb, .ref ye, .ref yl, .ref yg, .ref ya, .ref yh, .ref yd, .ref yi, .int (iI (im)), .int (iI (ps)), .int (iI (fs)), .int (iI (wd)), .int (iI (rl)), .int (iI (wa)), .int (iI (sn)), .int (iI (al))]))] 0 [(0, .ref y), (1, .int (iI (a)))] []
  refine z_iload_n (pc := 0) hX 1 rfl rfl dX0_shareOf_0 ?_
  refine z_aload_n (pc := 1) hX 0 rfl rfl dX0_shareOf_1 ?_
  refine z_get (pc := 2) hX (T := TX0) (C := RX0) (N := 17) (i := 58) (ref := "SignLetters$Layout") (name := "wantedArea") (desc := "I") hX0_shareOf_X0 0 rfl rfl 14 (by decide) kX0_shareOf_f58 ⟨rfl, rfl, rfl⟩ (v := .int (iI (wa))) rfl dX0_shareOf_2 ?_
  refine z_icmp_le (pc := 5) (tgt := 17) hX (by decide) (by omega) (by omega) dX0_shareOf_5 (fun c_1 => ?_) (fun c_1 => ?_)
  · refine z_aload_n (pc := 17) hX 0 rfl rfl dX0_shareOf_17 ?_
    refine z_get (pc := 18) hX (T := TX0) (C := RX0) (N := 17) (i := 58) (ref := "SignLetters$Layout") (name := "wantedArea") (desc := "I") hX0_shareOf_X0 0 rfl rfl 14 (by decide) kX0_shareOf_f58 ⟨rfl, rfl, rfl⟩ (v := .int (iI (wa))) rfl dX0_shareOf_18 ?_
    refine z_iload_n (pc := 21) hX 1 rfl rfl dX0_shareOf_21 ?_
    refine z_isub (pc := 22) hX dX0_shareOf_22 ?_
    refine z_istore_n (pc := 23) hX (loc' := [(2, .int (iI (wa - a))), (0, .ref y), (1, .int (iI (a)))]) rfl (by decide) rfl dX0_shareOf_23 ?_
    refine z_aload_n (pc := 24) hX 1 rfl rfl dX0_shareOf_24 ?_
    refine z_get (pc := 25) hX (T := TX0) (C := RX0) (N := 17) (i := 58) (ref := "SignLetters$Layout") (name := "wantedArea") (desc := "I") hX0_shareOf_X0 0 rfl rfl 14 (by decide) kX0_shareOf_f58 ⟨rfl, rfl, rfl⟩ (v := .int (iI (wa))) rfl dX0_shareOf_25 ?_
    refine z_if_le (pc := 28) (tgt := 43) hX (by decide) (by omega) dX0_shareOf_28 (fun c_2 => absurd c_2 (by first | omega | (clear ex hX; grind [uZ]))) (fun c_2 => ?_)
    refine z_iload_n (pc := 31) hX 0 rfl rfl dX0_shareOf_31 ?_
    refine z_bipush (pc := 32) hX (z := 100) (by decide +kernel) dX0_shareOf_32 ?_
    refine z_imul (pc := 34) hX dX0_shareOf_34 ?_
    refine z_aload_n (pc := 35) hX 1 rfl rfl dX0_shareOf_35 ?_
    refine z_get (pc := 36) hX (T := TX0) (C := RX0) (N := 17) (i := 58) (ref := "SignLetters$Layout") (name := "wantedArea") (desc := "I") hX0_shareOf_X0 0 rfl rfl 14 (by decide) kX0_shareOf_f58 ⟨rfl, rfl, rfl⟩ (v := .int (iI (wa))) rfl dX0_shareOf_36 ?_
    refine z_idiv (pc := 39) hX (by omega) (by omega) dX0_shareOf_39 ?_
    refine z_goto (pc := 40) (tgt := 44) hX (by decide) dX0_shareOf_40 ?_
    exact ex _ _ _ () _ dX0_shareOf_44 rfl (congrArg iI (show (((wa - a) * 100) / wa : Int) = shS wa a from by clear ex hX; unfold shS; first | rfl | grind)) rfl
  · refine z_iload_n (pc := 8) hX 1 rfl rfl dX0_shareOf_8 ?_
    refine z_aload_n (pc := 9) hX 0 rfl rfl dX0_shareOf_9 ?_
    refine z_get (pc := 10) hX (T := TX0) (C := RX0) (N := 17) (i := 58) (ref := "SignLetters$Layout") (name := "wantedArea") (desc := "I") hX0_shareOf_X0 0 rfl rfl 14 (by decide) kX0_shareOf_f58 ⟨rfl, rfl, rfl⟩ (v := .int (iI (wa))) rfl dX0_shareOf_10 ?_
    refine z_isub (pc := 13) hX dX0_shareOf_13 ?_
    refine z_goto (pc := 14) (tgt := 23) hX (by decide) dX0_shareOf_14 ?_
    refine z_istore_n (pc := 23) hX (loc' := [(2, .int (iI (a - wa))), (0, .ref y), (1, .int (iI (a)))]) rfl (by decide) rfl dX0_shareOf_23 ?_
    refine z_aload_n (pc := 24) hX 1 rfl rfl dX0_shareOf_24 ?_
    refine z_get (pc := 25) hX (T := TX0) (C := RX0) (N := 17) (i := 58) (ref := "SignLetters$Layout") (name := "wantedArea") (desc := "I") hX0_shareOf_X0 0 rfl rfl 14 (by decide) kX0_shareOf_f58 ⟨rfl, rfl, rfl⟩ (v := .int (iI (wa))) rfl dX0_shareOf_25 ?_
    refine z_if_le (pc := 28) (tgt := 43) hX (by decide) (by omega) dX0_shareOf_28 (fun c_3 => absurd c_3 (by first | omega | (clear ex hX; grind [uZ]))) (fun c_3 => ?_)
    refine z_iload_n (pc := 31) hX 0 rfl rfl dX0_shareOf_31 ?_
    refine z_bipush (pc := 32) hX (z := 100) (by decide +kernel) dX0_shareOf_32 ?_
    refine z_imul (pc := 34) hX dX0_shareOf_34 ?_
    refine z_aload_n (pc := 35) hX 1 rfl rfl dX0_shareOf_35 ?_
    refine z_get (pc := 36) hX (T := TX0) (C := RX0) (N := 17) (i := 58) (ref := "SignLetters$Layout") (name := "wantedArea") (desc := "I") hX0_shareOf_X0 0 rfl rfl 14 (by decide) kX0_shareOf_f58 ⟨rfl, rfl, rfl⟩ (v := .int (iI (wa))) rfl dX0_shareOf_36 ?_
    refine z_idiv (pc := 39) hX (by omega) (by omega) dX0_shareOf_39 ?_
    refine z_goto (pc := 40) (tgt := 44) hX (by decide) dX0_shareOf_40 ?_
    exact ex _ _ _ () _ dX0_shareOf_44 rfl (congrArg iI (show (((a - wa) * 100) / wa : Int) = shS wa a from by clear ex hX; unfold shS; first | rfl | grind)) rfl
theorem hX0_leastGap_X0 : ∀ w ∈ wsX00, w ∈ wsX0_leastGap := by decide +kernel
theorem hdX0_areaBy : yX0_areaBy.cls ≠ "java/lang/invoke/MethodHandle" ∧ yX0_areaBy.cls ≠ "java/lang/invoke/VarHandle" ∧ (parseMethodDescriptor yX0_areaBy.desc).map (fun d => d.parameters.length) = some 1 := by decide +kernel
theorem kX0_leastGap_f54 : Cond.fieldLink RX0 54 "SignLetters$Layout" "rowLimit" "I" ∈ wsX0_leastGap := by decide +kernel
theorem kX0_leastGap_f58 : Cond.fieldLink RX0 58 "SignLetters$Layout" "wantedArea" "I" ∈ wsX0_leastGap := by decide +kernel
set_option maxHeartbeats 400000 in
set_option maxRecDepth 100000 in
theorem mX0_leastGap (G : ZG) (y : Nat) (ys : Nat) (yb : Nat) (ye : Nat) (yl : Nat) (yg : Nat) (ya : Nat) (yh : Nat) (yd : Nat) (yi : Nat) (im : Int) (ps : Int) (fs : Int) (wd : Int) (rl : Int) (wa : Int) (sn : Int) (al : Int) (N : Int → Int) (hN : ∀ q : Int, 0 ≤ q → q < 10 → 0 ≤ N q ∧ N q ≤ 8) (hr : 0 ≤ rl ∧ rl ≤ 40) (hw : 10 ≤ wa ∧ wa ≤ 300) : zMeti yX0_leastGap wsX0_leastGap { frames := 1, cells := 0, slots := 0, locals := 24 } G [.ref y] [(y, .inr (0, [.ref ys, .ref yb, .ref ye, .ref yl, .ref yg, .ref ya, .ref yh, .ref yd, .ref yi, .int (iI (im)), .int (iI (ps)), .int (iI (fs)), .int (iI (wd)), .int (iI (rl)), .int (iI (wa)), .int (iI (sn)), .int (iI (al))])), (yi, zI G 10 (N))] (fun (rr : Int32) (uu : Unit) => rr = iI (lgS N rl wa)) (fun (uu : Unit) => [(y, .inr (0, [.ref ys, .ref yb, .ref ye, .ref yl, .ref yg, .ref ya, .ref yh, .ref yd, .ref yi, .int (iI (im)), .int (iI (ps)), .int (iI (fs)), .int (iI (wd)), .int (iI (rl)), .int (iI (wa)), .int (iI (sn)), .int (iI (al))])), (yi, zI G 10 (N))]) 0 0 := by
  refine z_meti (cc := cX0_leastGap) (nL := 2) (rt := .int) (by decide +kernel) rfl (Nat.le_of_ble_eq_true rfl) (fun X hX ex => ?_)
  have hX : ZOk G X 2 cX0_leastGap RX0 wsX0_leastGap { frames := 1, cells := 0, slots := 0, locals := 24 } := hX
  show Z G X 2 (0) (0) [(y, .inr (0, [.ref ys, .ref yb, .ref ye, .ref yl, .ref yg, .ref ya, .ref yh, .ref yd, .ref yi, .int (iI (im)), .int (iI (ps)), .int (iI (fs)), .int (iI (wd)), .int (iI (rl)), .int (iI (wa)), .int (iI (sn)), .int (iI (al))])), (yi, zI G 10 (N))] 0 [(0, .ref y)] []
  refine z_bipush (pc := 0) hX (z := 10) (by decide +kernel) dX0_leastGap_0 ?_
  refine z_aload_n (pc := 2) hX 0 rfl rfl dX0_leastGap_2 ?_
  refine z_get (pc := 3) hX (T := TX0) (C := RX0) (N := 17) (i := 54) (ref := "SignLetters$Layout") (name := "rowLimit") (desc := "I") hX0_leastGap_X0 0 rfl rfl 13 (by decide) kX0_leastGap_f54 ⟨rfl, rfl, rfl⟩ (v := .int (iI (rl))) rfl dX0_leastGap_3 ?_
  refine z_imul (pc := 6) hX dX0_leastGap_6 ?_
  refine z_aload_n (pc := 7) hX 0 rfl rfl dX0_leastGap_7 ?_
  refine z_get (pc := 8) hX (T := TX0) (C := RX0) (N := 17) (i := 58) (ref := "SignLetters$Layout") (name := "wantedArea") (desc := "I") hX0_leastGap_X0 0 rfl rfl 14 (by decide) kX0_leastGap_f58 ⟨rfl, rfl, rfl⟩ (v := .int (iI (wa))) rfl dX0_leastGap_8 ?_
  refine z_icmp_ge (pc := 11) (tgt := 17) hX (by decide) (by omega) (by omega) dX0_leastGap_11 (fun c_1 => ?_) (fun c_1 => ?_)
  · refine z_iconst (pc := 17) hX dX0_leastGap_17 ?_
    refine z_istore_n (pc := 18) hX (loc' := [(1, .int (iI (0))), (0, .ref y)]) rfl (by decide) rfl dX0_leastGap_18 ?_
    have cut_19 : ∀ (fz : Nat) (i : Int) (h0 : 0 ≤ i) (h1 : i ≤ 40) (hc : lgS N rl wa = lgA (arS N rl) wa (40 - i).toNat) (hm_19 : 40 - i < (fz : Int)), Z G X 2 (0) (0) [(y, .inr (0, [.ref ys, .ref yb, .ref ye, .ref yl, .ref yg, .ref ya, .ref yh, .ref yd, .ref yi, .int (iI (im)), .int (iI (ps)), .int (iI (fs)), .int (iI (wd)), .int (iI (rl)), .int (iI (wa)), .int (iI (sn)), .int (iI (al))])), (yi, zI G 10 (N))] 19 [(0, .ref y), (1, .int (iI (i)))] [] := by
      intro fz
      induction fz with
      | zero =>
        intro i h0 h1 hc hm_19
        exfalso
        omega
      | succ fz ih =>
        intro i h0 h1 hc hm_19
        have ih_19 := ih
        clear ih
        refine z_iload_n (pc := 19) hX 1 rfl rfl dX0_leastGap_19 ?_
        refine z_bipush (pc := 20) hX (z := 40) (by decide +kernel) dX0_leastGap_20 ?_
        refine z_icmp_ge (pc := 22) (tgt := 45) hX (by decide) (by omega) (by omega) dX0_leastGap_22 (fun c_2 => ?_) (fun c_2 => ?_)
        · refine z_bipush (pc := 45) hX (z := 40) (by decide +kernel) dX0_leastGap_45 ?_
          exact ex _ _ _ () _ dX0_leastGap_47 rfl (congrArg iI (show (40 : Int) = lgS N rl wa from by rw [hc, lgA_0 _ _ (by omega)])) rfl
        · refine z_aload_n (pc := 25) hX 0 rfl rfl dX0_leastGap_25 ?_
          refine z_iload_n (pc := 26) hX 1 rfl rfl dX0_leastGap_26 ?_
          refine z_callV_i (pc := 27) (As := [.int (iI (i))]) (rest := []) (wc := [(y, .inr (0, [.ref ys, .ref yb, .ref ye, .ref yl, .ref yg, .ref ya, .ref yh, .ref yd, .ref yi, .int (iI (im)), .int (iI (ps)), .int (iI (fs)), .int (iI (wd)), .int (iI (rl)), .int (iI (wa)), .int (iI (sn)), .int (iI (al))])), (yi, zI G 10 (N))]) (wr := []) hX (mX0_areaBy G (y) (ys) (yb) (ye) (yl) (yg) (ya) (yh) (yd) (yi) (im) (ps) (fs) (wd) (rl) (wa) (sn) (al) (N) (i) (by first | assumption | omega | (clear ex hX ih_19; grind [uZ])) (by first | assumption | omega | (clear ex hX ih_19; grind [uZ])) (by first | assumption | omega | (clear ex hX ih_19; grind [uZ]))) rfl rfl rfl (C := RX0) gX0_leastGap_X0_areaBy ⟨rfl, hdX0_areaBy⟩ (T := TX0) (N := 17) 0 rfl rfl ⟨Nat.le_of_ble_eq_true rfl, Nat.le_of_ble_eq_true rfl⟩ [0, 1] [] rfl rfl (by decide) (by decide) (by decide) rfl (Nat.le_of_ble_eq_true rfl) ⟨Nat.le_of_ble_eq_true rfl, Nat.le_of_ble_eq_true rfl⟩ dX0_leastGap_27 (fun r_3 u_3 h_3 => ?_)
          subst h_3
          have ha_3 := arS_r (rl := rl) (g := i) hN h0 hr
          show Z G X 2 (0) (0) [(y, .inr (0, [.ref ys, .ref yb, .ref ye, .ref yl, .ref yg, .ref ya, .ref yh, .ref yd, .ref yi, .int (iI (im)), .int (iI (ps)), .int (iI (fs)), .int (iI (wd)), .int (iI (rl)), .int (iI (wa)), .int (iI (sn)), .int (iI (al))])), (yi, zI G 10 (N))] 30 [(0, .ref y), (1, .int (iI (i)))] [.int (iI (arS N rl i))]
          refine z_aload_n (pc := 30) hX 0 rfl rfl dX0_leastGap_30 ?_
          refine z_get (pc := 31) hX (T := TX0) (C := RX0) (N := 17) (i := 58) (ref := "SignLetters$Layout") (name := "wantedArea") (desc := "I") hX0_leastGap_X0 0 rfl rfl 14 (by decide) kX0_leastGap_f58 ⟨rfl, rfl, rfl⟩ (v := .int (iI (wa))) rfl dX0_leastGap_31 ?_
          refine z_icmp_lt (pc := 34) (tgt := 39) hX (by decide) (by omega) (by omega) dX0_leastGap_34 (fun c_4 => ?_) (fun c_4 => ?_)
          · refine z_iinc (pc := 39) hX (loc' := [(1, .int (iI (i + 1))), (0, .ref y)]) 1 rfl (by decide) rfl dX0_leastGap_39 ?_
            refine z_goto (pc := 42) (tgt := 19) hX (by decide) dX0_leastGap_42 ?_
            refine z_at [1, 0] [0, 1] (loc' := [(0, .ref y), (1, .int (iI ((i + 1))))]) (WS' := [(y, .inr (0, [.ref ys, .ref yb, .ref ye, .ref yl, .ref yg, .ref ya, .ref yh, .ref yd, .ref yi, .int (iI (im)), .int (iI (ps)), .int (iI (fs)), .int (iI (wd)), .int (iI (rl)), .int (iI (wa)), .int (iI (sn)), .int (iI (al))])), (yi, zI G 10 (N))]) rfl (by decide) rfl ?_
            exact ih_19 (i + 1) (by first | assumption | omega | (clear ex hX ih_19; grind [uZ])) (by first | assumption | omega | (clear ex hX ih_19; grind [uZ])) (by rw [hc, lgA_s _ _ (by omega), if_neg (by omega)]) (by omega)
          · refine z_iload_n (pc := 37) hX 1 rfl rfl dX0_leastGap_37 ?_
            exact ex _ _ _ () _ dX0_leastGap_38 rfl (congrArg iI (show (i : Int) = lgS N rl wa from by rw [hc, lgA_s _ _ (by omega), if_pos (by omega)])) rfl
    refine z_at [1, 0] [0, 1] (loc' := [(0, .ref y), (1, .int (iI (0)))]) (WS' := [(y, .inr (0, [.ref ys, .ref yb, .ref ye, .ref yl, .ref yg, .ref ya, .ref yh, .ref yd, .ref yi, .int (iI (im)), .int (iI (ps)), .int (iI (fs)), .int (iI (wd)), .int (iI (rl)), .int (iI (wa)), .int (iI (sn)), .int (iI (al))])), (yi, zI G 10 (N))]) rfl (by decide) rfl ?_
    exact cut_19 (Int.toNat (40 - 0) + 1) (0) (by first | assumption | omega | (clear ex hX cut_19; grind [uZ])) (by first | assumption | omega | (clear ex hX cut_19; grind [uZ])) (by rfl) (by omega)
  · refine z_bipush (pc := 14) hX (z := 40) (by decide +kernel) dX0_leastGap_14 ?_
    exact ex _ _ _ () _ dX0_leastGap_16 rfl (congrArg iI (show (40 : Int) = lgS N rl wa from by exact (lgS_big hN hr (by omega)).symm)) rfl
theorem hX0_joinEdges_X0 : ∀ w ∈ wsX00, w ∈ wsX0_joinEdges := by decide +kernel
theorem hdX5_leftShape : yX5_leftShape.cls ≠ "java/lang/invoke/MethodHandle" ∧ yX5_leftShape.cls ≠ "java/lang/invoke/VarHandle" ∧ (parseMethodDescriptor yX5_leftShape.desc).map (fun d => d.parameters.length) = some 1 := by decide +kernel
theorem hdX5_rightShape : yX5_rightShape.cls ≠ "java/lang/invoke/MethodHandle" ∧ yX5_rightShape.cls ≠ "java/lang/invoke/VarHandle" ∧ (parseMethodDescriptor yX5_rightShape.desc).map (fun d => d.parameters.length) = some 1 := by decide +kernel
theorem kX0_joinEdges_f33 : Cond.fieldLink RX0 33 "SignLetters$Layout" "edges" "[I" ∈ wsX0_joinEdges := by decide +kernel
theorem kX0_joinEdges_f36 : Cond.fieldLink RX0 36 "SignLetters$Layout" "indents" "[I" ∈ wsX0_joinEdges := by decide +kernel
theorem kX0_joinEdges_inX5 : Cond.initialized RX5 ∈ wsX0_joinEdges := by decide +kernel
theorem kX0_joinEdges_stX5_leftShape : Cond.static yX5_leftShape ∈ wsX0_joinEdges := by decide +kernel
theorem kX0_joinEdges_stX5_rightShape : Cond.static yX5_rightShape ∈ wsX0_joinEdges := by decide +kernel
theorem kX0_joinEdges_stX5_valueAt : Cond.static yX5_valueAt ∈ wsX0_joinEdges := by decide +kernel
set_option maxHeartbeats 400000 in
set_option maxRecDepth 100000 in
theorem mX0_joinEdges (G : ZG) (y : Nat) (ys : Nat) (yb : Nat) (ye : Nat) (yl : Nat) (yg : Nat) (ya : Nat) (yh : Nat) (yd : Nat) (yi : Nat) (im : Int) (ps : Int) (fs : Int) (wd : Int) (rl : Int) (wa : Int) (sn : Int) (al : Int) (V : Int → Int) (N : Int → Int) (a : Int) (b : Int) (ha : 0 ≤ a ∧ a < 26) (hb : 0 ≤ b ∧ b < 26) : zMetv yX0_joinEdges wsX0_joinEdges { frames := 1, cells := 0, slots := 0, locals := 21 } G [.ref y, .int (iI (a)), .int (iI (b))] [(y, .inr (0, [.ref ys, .ref yb, .ref ye, .ref yl, .ref yg, .ref ya, .ref yh, .ref yd, .ref yi, .int (iI (im)), .int (iI (ps)), .int (iI (fs)), .int (iI (wd)), .int (iI (rl)), .int (iI (wa)), .int (iI (sn)), .int (iI (al))])), (yd, zI G 40 (V)), (yi, zI G 10 (N))] (fun (uu : Unit) => True) (fun (uu : Unit) => [(y, .inr (0, [.ref ys, .ref yb, .ref ye, .ref yl, .ref yg, .ref ya, .ref yh, .ref yd, .ref yi, .int (iI (im)), .int (iI (ps)), .int (iI (fs)), .int (iI (wd)), .int (iI (rl)), .int (iI (wa)), .int (iI (sn)), .int (iI (al))])), (yd, zI G 40 (V)), (yi, zI G 10 (jnZ V a b))]) 0 0 := by
  refine z_metv (cc := cX0_joinEdges) (nL := 6) (by decide +kernel) rfl (Nat.le_of_ble_eq_true rfl) (fun X hX ex => ?_)
  have hX : ZOk G X 6 cX0_joinEdges RX0 wsX0_joinEdges { frames := 1, cells := 0, slots := 0, locals := 21 } := hX
  show Z G X 6 (0) (0) [(y, .inr (0, [.ref ys, .ref yb, .ref ye, .ref yl, .ref yg, .ref ya, .ref yh, .ref yd, .ref yi, .int (iI (im)), .int (iI (ps)), .int (iI (fs)), .int (iI (wd)), .int (iI (rl)), .int (iI (wa)), .int (iI (sn)), .int (iI (al))])), (yd, zI G 40 (V)), (yi, zI G 10 (N))] 0 [(0, .ref y), (1, .int (iI (a))), (2, .int (iI (b)))] []
  refine z_bipush (pc := 0) hX (z := 10) (by decide +kernel) dX0_joinEdges_0 ?_
  refine z_iload_n (pc := 2) hX 1 rfl rfl dX0_joinEdges_2 ?_
  refine z_callSN_i (pc := 3) (As := [.int (iI (a))]) (rest := [.int (iI (10))]) (wc := []) (wr := [(y, .inr (0, [.ref ys, .ref yb, .ref ye, .ref yl, .ref yg, .ref ya, .ref yh, .ref yd, .ref yi, .int (iI (im)), .int (iI (ps)), .int (iI (fs)), .int (iI (wd)), .int (iI (rl)), .int (iI (wa)), .int (iI (sn)), .int (iI (al))])), (yd, zI G 40 (V)), (yi, zI G 10 (N))]) hX (mX5_rightShape G (a) (by first | assumption | omega | (clear ex hX; grind [uZ]))) rfl rfl rfl gX0_joinEdges_X5_rightShape_n134 hdX5_rightShape (by decide +kernel) kX0_joinEdges_inX5 kX0_joinEdges_stX5_rightShape ⟨Nat.le_of_ble_eq_true rfl, Nat.le_of_ble_eq_true rfl⟩ [] [0, 1, 2] rfl rfl (by decide) (by decide) (by decide) rfl (Nat.le_of_ble_eq_true rfl) ⟨Nat.le_of_ble_eq_true rfl, Nat.le_of_ble_eq_true rfl⟩ dX0_joinEdges_3 (fun r_1 u_1 h_1 => ?_)
  subst h_1
  show Z G X 6 (0) (0) [(y, .inr (0, [.ref ys, .ref yb, .ref ye, .ref yl, .ref yg, .ref ya, .ref yh, .ref yd, .ref yi, .int (iI (im)), .int (iI (ps)), .int (iI (fs)), .int (iI (wd)), .int (iI (rl)), .int (iI (wa)), .int (iI (sn)), .int (iI (al))])), (yd, zI G 40 (V)), (yi, zI G 10 (N))] 6 [(0, .ref y), (1, .int (iI (a))), (2, .int (iI (b)))] [.int (iI ((3 * a + 1) % 4)), .int (iI (10))]
  refine z_imul (pc := 6) hX dX0_joinEdges_6 ?_
  refine z_istore_n (pc := 7) hX (loc' := [(3, .int (iI (10 * ((3 * a + 1) % 4)))), (0, .ref y), (1, .int (iI (a))), (2, .int (iI (b)))]) rfl (by decide) rfl dX0_joinEdges_7 ?_
  refine z_bipush (pc := 8) hX (z := 10) (by decide +kernel) dX0_joinEdges_8 ?_
  refine z_iload_n (pc := 10) hX 3 rfl rfl dX0_joinEdges_10 ?_
  refine z_callSN_i (pc := 11) (As := [.int (iI (b))]) (rest := [.int (iI (10))]) (wc := []) (wr := [(y, .inr (0, [.ref ys, .ref yb, .ref ye, .ref yl, .ref yg, .ref ya, .ref yh, .ref yd, .ref yi, .int (iI (im)), .int (iI (ps)), .int (iI (fs)), .int (iI (wd)), .int (iI (rl)), .int (iI (wa)), .int (iI (sn)), .int (iI (al))])), (yd, zI G 40 (V)), (yi, zI G 10 (N))]) hX (mX5_leftShape G (b) (by first | assumption | omega | (clear ex hX; grind [uZ]))) rfl rfl rfl gX0_joinEdges_X5_leftShape_n137 hdX5_leftShape (by decide +kernel) kX0_joinEdges_inX5 kX0_joinEdges_stX5_leftShape ⟨Nat.le_of_ble_eq_true rfl, Nat.le_of_ble_eq_true rfl⟩ [] [0, 1, 2] rfl rfl (by decide) (by decide) (by decide) rfl (Nat.le_of_ble_eq_true rfl) ⟨Nat.le_of_ble_eq_true rfl, Nat.le_of_ble_eq_true rfl⟩ dX0_joinEdges_11 (fun r_2 u_2 h_2 => ?_)
  subst h_2
  show Z G X 6 (0) (0) [(y, .inr (0, [.ref ys, .ref yb, .ref ye, .ref yl, .ref yg, .ref ya, .ref yh, .ref yd, .ref yi, .int (iI (im)), .int (iI (ps)), .int (iI (fs)), .int (iI (wd)), .int (iI (rl)), .int (iI (wa)), .int (iI (sn)), .int (iI (al))])), (yd, zI G 40 (V)), (yi, zI G 10 (N))] 14 [(3, .int (iI (10 * ((3 * a + 1) % 4)))), (0, .ref y), (1, .int (iI (a))), (2, .int (iI (b)))] [.int (iI (b % 4)), .int (iI (10))]
  refine z_imul (pc := 14) hX dX0_joinEdges_14 ?_
  refine z_istore (pc := 15) hX (loc' := [(4, .int (iI (10 * (b % 4)))), (3, .int (iI (10 * ((3 * a + 1) % 4)))), (0, .ref y), (1, .int (iI (a))), (2, .int (iI (b)))]) (by decide) rfl dX0_joinEdges_15 ?_
  refine z_iconst (pc := 17) hX dX0_joinEdges_17 ?_
  refine z_istore (pc := 18) hX (loc' := [(5, .int (iI (0))), (4, .int (iI (10 * (b % 4)))), (3, .int (iI (10 * ((3 * a + 1) % 4)))), (0, .ref y), (1, .int (iI (a))), (2, .int (iI (b)))]) (by decide) rfl dX0_joinEdges_18 ?_
  have cut_20 : ∀ (fz : Nat) (i : Int) (N1 : Int → Int) (h0 : 0 ≤ i) (h1 : i ≤ 10) (hN : ∀ j : Int, 0 ≤ j → j < i → N1 j = jnZ V a b j) (hm_20 : 10 - i < (fz : Int)), Z G X 6 (0) (0) [(y, .inr (0, [.ref ys, .ref yb, .ref ye, .ref yl, .ref yg, .ref ya, .ref yh, .ref yd, .ref yi, .int (iI (im)), .int (iI (ps)), .int (iI (fs)), .int (iI (wd)), .int (iI (rl)), .int (iI (wa)), .int (iI (sn)), .int (iI (al))])), (yd, zI G 40 (V)), (yi, zI G 10 (N1))] 20 [(0, .ref y), (1, .int (iI (a))), (2, .int (iI (b))), (3, .int (iI (10 * ((3 * a + 1) % 4)))), (4, .int (iI (10 * (b % 4)))), (5, .int (iI (i)))] [] := by
    intro fz
    induction fz with
    | zero =>
      intro i N1 h0 h1 hN hm_20
      exfalso
      omega
    | succ fz ih =>
      intro i N1 h0 h1 hN hm_20
      have ih_20 := ih
      clear ih
      refine z_iload (pc := 20) hX 5 rfl dX0_joinEdges_20 ?_
      refine z_aload_n (pc := 22) hX 0 rfl rfl dX0_joinEdges_22 ?_
      refine z_get (pc := 23) hX (T := TX0) (C := RX0) (N := 17) (i := 36) (ref := "SignLetters$Layout") (name := "indents") (desc := "[I") hX0_joinEdges_X0 0 rfl rfl 8 (by decide) kX0_joinEdges_f36 ⟨rfl, rfl, rfl⟩ (v := .ref yi) rfl dX0_joinEdges_23 ?_
      refine z_alen (pc := 26) hX (z := 10) 2 rfl rfl dX0_joinEdges_26 ?_
      refine z_icmp_ge (pc := 27) (tgt := 67) hX (by decide) (by omega) (by omega) dX0_joinEdges_27 (fun c_3 => ?_) (fun c_3 => ?_)
      · refine z_arrX (N := 10) (F := N1) (F1 := jnZ V a b) (WS1 := [(y, .inr (0, [.ref ys, .ref yb, .ref ye, .ref yl, .ref yg, .ref ya, .ref yh, .ref yd, .ref yi, .int (iI (im)), .int (iI (ps)), .int (iI (fs)), .int (iI (wd)), .int (iI (rl)), .int (iI (wa)), .int (iI (sn)), .int (iI (al))])), (yd, zI G 40 (V)), (yi, zI G 10 (jnZ V a b))]) 2 rfl (fun j hj0 hj1 => by exact hN j hj0 (by omega)) rfl ?_
        exact ex _ _ () _ dX0_joinEdges_67 trivial rfl
      · refine z_aload_n (pc := 30) hX 0 rfl rfl dX0_joinEdges_30 ?_
        refine z_get (pc := 31) hX (T := TX0) (C := RX0) (N := 17) (i := 36) (ref := "SignLetters$Layout") (name := "indents") (desc := "[I") hX0_joinEdges_X0 0 rfl rfl 8 (by decide) kX0_joinEdges_f36 ⟨rfl, rfl, rfl⟩ (v := .ref yi) rfl dX0_joinEdges_31 ?_
        refine z_iload (pc := 34) hX 5 rfl dX0_joinEdges_34 ?_
        refine z_aload_n (pc := 36) hX 0 rfl rfl dX0_joinEdges_36 ?_
        refine z_get (pc := 37) hX (T := TX0) (C := RX0) (N := 17) (i := 33) (ref := "SignLetters$Layout") (name := "edges") (desc := "[I") hX0_joinEdges_X0 0 rfl rfl 7 (by decide) kX0_joinEdges_f33 ⟨rfl, rfl, rfl⟩ (v := .ref yd) rfl dX0_joinEdges_37 ?_
        refine z_iload_n (pc := 40) hX 3 rfl rfl dX0_joinEdges_40 ?_
        refine z_iload (pc := 41) hX 5 rfl dX0_joinEdges_41 ?_
        refine z_iadd (pc := 43) hX dX0_joinEdges_43 ?_
        refine z_callSN_i (pc := 44) (As := [.ref yd, .int (iI ((10 * ((3 * a + 1) % 4)) + i))]) (rest := [.int (iI (i)), .ref yi]) (wc := [(yd, zI G 40 (V))]) (wr := [(y, .inr (0, [.ref ys, .ref yb, .ref ye, .ref yl, .ref yg, .ref ya, .ref yh, .ref yd, .ref yi, .int (iI (im)), .int (iI (ps)), .int (iI (fs)), .int (iI (wd)), .int (iI (rl)), .int (iI (wa)), .int (iI (sn)), .int (iI (al))])), (yi, zI G 10 (N1))]) hX (mX5_valueAt G (yd) (40) (V) ((10 * ((3 * a + 1) % 4)) + i) (by first | assumption | omega | (clear ex hX ih_20; grind [uZ])) (by first | assumption | omega | (clear ex hX ih_20; grind [uZ]))) rfl rfl rfl gX0_joinEdges_X5_valueAt_n50 hdX5_valueAt (by decide +kernel) kX0_joinEdges_inX5 kX0_joinEdges_stX5_valueAt ⟨Nat.le_of_ble_eq_true rfl, Nat.le_of_ble_eq_true rfl⟩ [1] [0, 2] rfl rfl (by decide) (by decide) (by decide) rfl (Nat.le_of_ble_eq_true rfl) ⟨Nat.le_of_ble_eq_true rfl, Nat.le_of_ble_eq_true rfl⟩ dX0_joinEdges_44 (fun r_4 u_4 h_4 => ?_)
        subst h_4
        show Z G X 6 (0) (0) [(y, .inr (0, [.ref ys, .ref yb, .ref ye, .ref yl, .ref yg, .ref ya, .ref yh, .ref yd, .ref yi, .int (iI (im)), .int (iI (ps)), .int (iI (fs)), .int (iI (wd)), .int (iI (rl)), .int (iI (wa)), .int (iI (sn)), .int (iI (al))])), (yi, zI G 10 (N1)), (yd, zI G 40 (V))] 47 [(0, .ref y), (1, .int (iI (a))), (2, .int (iI (b))), (3, .int (iI (10 * ((3 * a + 1) % 4)))), (4, .int (iI (10 * (b % 4)))), (5, .int (iI (i)))] [.int (iI (V ((10 * ((3 * a + 1) % 4)) + i))), .int (iI (i)), .ref yi]
        refine z_aload_n (pc := 47) hX 0 rfl rfl dX0_joinEdges_47 ?_
        refine z_get (pc := 48) hX (T := TX0) (C := RX0) (N := 17) (i := 33) (ref := "SignLetters$Layout") (name := "edges") (desc := "[I") hX0_joinEdges_X0 0 rfl rfl 7 (by decide) kX0_joinEdges_f33 ⟨rfl, rfl, rfl⟩ (v := .ref yd) rfl dX0_joinEdges_48 ?_
        refine z_iload (pc := 51) hX 4 rfl dX0_joinEdges_51 ?_
        refine z_iload (pc := 53) hX 5 rfl dX0_joinEdges_53 ?_
        refine z_iadd (pc := 55) hX dX0_joinEdges_55 ?_
        refine z_callSN_i (pc := 56) (As := [.ref yd, .int (iI ((10 * (b % 4)) + i))]) (rest := [.int (iI (V ((10 * ((3 * a + 1) % 4)) + i))), .int (iI (i)), .ref yi]) (wc := [(yd, zI G 40 (V))]) (wr := [(y, .inr (0, [.ref ys, .ref yb, .ref ye, .ref yl, .ref yg, .ref ya, .ref yh, .ref yd, .ref yi, .int (iI (im)), .int (iI (ps)), .int (iI (fs)), .int (iI (wd)), .int (iI (rl)), .int (iI (wa)), .int (iI (sn)), .int (iI (al))])), (yi, zI G 10 (N1))]) hX (mX5_valueAt G (yd) (40) (V) ((10 * (b % 4)) + i) (by first | assumption | omega | (clear ex hX ih_20; grind [uZ])) (by first | assumption | omega | (clear ex hX ih_20; grind [uZ]))) rfl rfl rfl gX0_joinEdges_X5_valueAt_n50 hdX5_valueAt (by decide +kernel) kX0_joinEdges_inX5 kX0_joinEdges_stX5_valueAt ⟨Nat.le_of_ble_eq_true rfl, Nat.le_of_ble_eq_true rfl⟩ [2] [0, 1] rfl rfl (by decide) (by decide) (by decide) rfl (Nat.le_of_ble_eq_true rfl) ⟨Nat.le_of_ble_eq_true rfl, Nat.le_of_ble_eq_true rfl⟩ dX0_joinEdges_56 (fun r_5 u_5 h_5 => ?_)
        subst h_5
        show Z G X 6 (0) (0) [(y, .inr (0, [.ref ys, .ref yb, .ref ye, .ref yl, .ref yg, .ref ya, .ref yh, .ref yd, .ref yi, .int (iI (im)), .int (iI (ps)), .int (iI (fs)), .int (iI (wd)), .int (iI (rl)), .int (iI (wa)), .int (iI (sn)), .int (iI (al))])), (yi, zI G 10 (N1)), (yd, zI G 40 (V))] 59 [(0, .ref y), (1, .int (iI (a))), (2, .int (iI (b))), (3, .int (iI (10 * ((3 * a + 1) % 4)))), (4, .int (iI (10 * (b % 4)))), (5, .int (iI (i)))] [.int (iI (V ((10 * (b % 4)) + i))), .int (iI (V ((10 * ((3 * a + 1) % 4)) + i))), .int (iI (i)), .ref yi]
        refine z_iadd (pc := 59) hX dX0_joinEdges_59 ?_
        refine z_iast (pc := 60) hX (N := 10) (F := N1) (WS' := [(y, .inr (0, [.ref ys, .ref yb, .ref ye, .ref yl, .ref yg, .ref ya, .ref yh, .ref yd, .ref yi, .int (iI (im)), .int (iI (ps)), .int (iI (fs)), .int (iI (wd)), .int (iI (rl)), .int (iI (wa)), .int (iI (sn)), .int (iI (al))])), (yi, zI G 10 (uZ N1 i ((V ((10 * ((3 * a + 1) % 4)) + i)) + (V ((10 * (b % 4)) + i))))), (yd, zI G 40 (V))]) 1 rfl (by omega) (by omega) rfl dX0_joinEdges_60 ?_
        refine z_iinc (pc := 61) hX (loc' := [(5, .int (iI (i + 1))), (0, .ref y), (1, .int (iI (a))), (2, .int (iI (b))), (3, .int (iI (10 * ((3 * a + 1) % 4)))), (4, .int (iI (10 * (b % 4))))]) 5 rfl (by decide) rfl dX0_joinEdges_61 ?_
        refine z_goto (pc := 64) (tgt := 20) hX (by decide) dX0_joinEdges_64 ?_
        refine z_at [1, 2, 3, 4, 5, 0] [0, 2, 1] (loc' := [(0, .ref y), (1, .int (iI (a))), (2, .int (iI (b))), (3, .int (iI (10 * ((3 * a + 1) % 4)))), (4, .int (iI (10 * (b % 4)))), (5, .int (iI ((i + 1))))]) (WS' := [(y, .inr (0, [.ref ys, .ref yb, .ref ye, .ref yl, .ref yg, .ref ya, .ref yh, .ref yd, .ref yi, .int (iI (im)), .int (iI (ps)), .int (iI (fs)), .int (iI (wd)), .int (iI (rl)), .int (iI (wa)), .int (iI (sn)), .int (iI (al))])), (yd, zI G 40 (V)), (yi, zI G 10 ((uZ N1 i ((V ((10 * ((3 * a + 1) % 4)) + i)) + (V ((10 * (b % 4)) + i))))))]) rfl (by decide) rfl ?_
        exact ih_20 (i + 1) (uZ N1 i ((V ((10 * ((3 * a + 1) % 4)) + i)) + (V ((10 * (b % 4)) + i)))) (by first | assumption | omega | (clear ex hX ih_20; grind [uZ])) (by first | assumption | omega | (clear ex hX ih_20; grind [uZ])) (by exact uZ_step hN rfl) (by omega)
  refine z_at [3, 4, 5, 2, 1, 0] [0, 1, 2] (loc' := [(0, .ref y), (1, .int (iI (a))), (2, .int (iI (b))), (3, .int (iI (10 * ((3 * a + 1) % 4)))), (4, .int (iI (10 * (b % 4)))), (5, .int (iI (0)))]) (WS' := [(y, .inr (0, [.ref ys, .ref yb, .ref ye, .ref yl, .ref yg, .ref ya, .ref yh, .ref yd, .ref yi, .int (iI (im)), .int (iI (ps)), .int (iI (fs)), .int (iI (wd)), .int (iI (rl)), .int (iI (wa)), .int (iI (sn)), .int (iI (al))])), (yd, zI G 40 (V)), (yi, zI G 10 (N))]) rfl (by decide) rfl ?_
  exact cut_20 (Int.toNat (10 - 0) + 1) (0) (N) (by first | assumption | omega | (clear ex hX cut_20; grind [uZ])) (by first | assumption | omega | (clear ex hX cut_20; grind [uZ])) (by intro j j0 j1; omega) (by omega)
theorem hX0_brushEdges_X0 : ∀ w ∈ wsX00, w ∈ wsX0_brushEdges := by decide +kernel
theorem hdX5_brushedIndent : yX5_brushedIndent.cls ≠ "java/lang/invoke/MethodHandle" ∧ yX5_brushedIndent.cls ≠ "java/lang/invoke/VarHandle" ∧ (parseMethodDescriptor yX5_brushedIndent.desc).map (fun d => d.parameters.length) = some 3 := by decide +kernel
theorem kX0_brushEdges_f33 : Cond.fieldLink RX0 33 "SignLetters$Layout" "edges" "[I" ∈ wsX0_brushEdges := by decide +kernel
theorem kX0_brushEdges_inX5 : Cond.initialized RX5 ∈ wsX0_brushEdges := by decide +kernel
theorem kX0_brushEdges_stX5_brushedIndent : Cond.static yX5_brushedIndent ∈ wsX0_brushEdges := by decide +kernel
set_option maxHeartbeats 400000 in
set_option maxRecDepth 100000 in
theorem mX0_brushEdges (G : ZG) (y : Nat) (ys : Nat) (yb : Nat) (ye : Nat) (yl : Nat) (yg : Nat) (ya : Nat) (yh : Nat) (yd : Nat) (yi : Nat) (im : Int) (ps : Int) (fs : Int) (wd : Int) (rl : Int) (wa : Int) (sn : Int) (al : Int) (V : Int → Int) (b : Int) (hb : 0 ≤ b ∧ b ≤ 4) : zMetv yX0_brushEdges wsX0_brushEdges { frames := 2, cells := 0, slots := 0, locals := 44 } G [.ref y, .int (iI (b))] [(y, .inr (0, [.ref ys, .ref yb, .ref ye, .ref yl, .ref yg, .ref ya, .ref yh, .ref yd, .ref yi, .int (iI (im)), .int (iI (ps)), .int (iI (fs)), .int (iI (wd)), .int (iI (rl)), .int (iI (wa)), .int (iI (sn)), .int (iI (al))])), (yd, zI G 40 (V))] (fun (uu : Unit) => True) (fun (uu : Unit) => [(y, .inr (0, [.ref ys, .ref yb, .ref ye, .ref yl, .ref yg, .ref ya, .ref yh, .ref yd, .ref yi, .int (iI (im)), .int (iI (ps)), .int (iI (fs)), .int (iI (wd)), .int (iI (rl)), .int (iI (wa)), .int (iI (sn)), .int (iI (al))])), (yd, zI G 40 (edZ b))]) 0 0 := by
  refine z_metv (cc := cX0_brushEdges) (nL := 3) (by decide +kernel) rfl (Nat.le_of_ble_eq_true rfl) (fun X hX ex => ?_)
  have hX : ZOk G X 3 cX0_brushEdges RX0 wsX0_brushEdges { frames := 2, cells := 0, slots := 0, locals := 44 } := hX
  show Z G X 3 (0) (0) [(y, .inr (0, [.ref ys, .ref yb, .ref ye, .ref yl, .ref yg, .ref ya, .ref yh, .ref yd, .ref yi, .int (iI (im)), .int (iI (ps)), .int (iI (fs)), .int (iI (wd)), .int (iI (rl)), .int (iI (wa)), .int (iI (sn)), .int (iI (al))])), (yd, zI G 40 (V))] 0 [(0, .ref y), (1, .int (iI (b)))] []
  refine z_iconst (pc := 0) hX dX0_brushEdges_0 ?_
  refine z_istore_n (pc := 1) hX (loc' := [(2, .int (iI (0))), (0, .ref y), (1, .int (iI (b)))]) rfl (by decide) rfl dX0_brushEdges_1 ?_
  have cut_2 : ∀ (fz : Nat) (i : Int) (V1 : Int → Int) (h0 : 0 ≤ i) (h1 : i ≤ 40) (hV : ∀ j : Int, 0 ≤ j → j < i → V1 j = edZ b j) (hm_2 : 40 - i < (fz : Int)), Z G X 3 (0) (0) [(y, .inr (0, [.ref ys, .ref yb, .ref ye, .ref yl, .ref yg, .ref ya, .ref yh, .ref yd, .ref yi, .int (iI (im)), .int (iI (ps)), .int (iI (fs)), .int (iI (wd)), .int (iI (rl)), .int (iI (wa)), .int (iI (sn)), .int (iI (al))])), (yd, zI G 40 (V1))] 2 [(0, .ref y), (1, .int (iI (b))), (2, .int (iI (i)))] [] := by
    intro fz
    induction fz with
    | zero =>
      intro i V1 h0 h1 hV hm_2
      exfalso
      omega
    | succ fz ih =>
      intro i V1 h0 h1 hV hm_2
      have ih_2 := ih
      clear ih
      refine z_iload_n (pc := 2) hX 2 rfl rfl dX0_brushEdges_2 ?_
      refine z_aload_n (pc := 3) hX 0 rfl rfl dX0_brushEdges_3 ?_
      refine z_get (pc := 4) hX (T := TX0) (C := RX0) (N := 17) (i := 33) (ref := "SignLetters$Layout") (name := "edges") (desc := "[I") hX0_brushEdges_X0 0 rfl rfl 7 (by decide) kX0_brushEdges_f33 ⟨rfl, rfl, rfl⟩ (v := .ref yd) rfl dX0_brushEdges_4 ?_
      refine z_alen (pc := 7) hX (z := 40) 1 rfl rfl dX0_brushEdges_7 ?_
      refine z_icmp_ge (pc := 8) (tgt := 35) hX (by decide) (by omega) (by omega) dX0_brushEdges_8 (fun c_1 => ?_) (fun c_1 => ?_)
      · refine z_arrX (N := 40) (F := V1) (F1 := edZ b) (WS1 := [(y, .inr (0, [.ref ys, .ref yb, .ref ye, .ref yl, .ref yg, .ref ya, .ref yh, .ref yd, .ref yi, .int (iI (im)), .int (iI (ps)), .int (iI (fs)), .int (iI (wd)), .int (iI (rl)), .int (iI (wa)), .int (iI (sn)), .int (iI (al))])), (yd, zI G 40 (edZ b))]) 1 rfl (fun j hj0 hj1 => by exact hV j hj0 (by omega)) rfl ?_
        exact ex _ _ () _ dX0_brushEdges_35 trivial rfl
      · refine z_aload_n (pc := 11) hX 0 rfl rfl dX0_brushEdges_11 ?_
        refine z_get (pc := 12) hX (T := TX0) (C := RX0) (N := 17) (i := 33) (ref := "SignLetters$Layout") (name := "edges") (desc := "[I") hX0_brushEdges_X0 0 rfl rfl 7 (by decide) kX0_brushEdges_f33 ⟨rfl, rfl, rfl⟩ (v := .ref yd) rfl dX0_brushEdges_12 ?_
        refine z_iload_n (pc := 15) hX 2 rfl rfl dX0_brushEdges_15 ?_
        refine z_iload_n (pc := 16) hX 2 rfl rfl dX0_brushEdges_16 ?_
        refine z_bipush (pc := 17) hX (z := 10) (by decide +kernel) dX0_brushEdges_17 ?_
        refine z_idiv (pc := 19) hX (by omega) (by omega) dX0_brushEdges_19 ?_
        refine z_iload_n (pc := 20) hX 2 rfl rfl dX0_brushEdges_20 ?_
        refine z_bipush (pc := 21) hX (z := 10) (by decide +kernel) dX0_brushEdges_21 ?_
        refine z_irem (pc := 23) hX (by omega) (by omega) dX0_brushEdges_23 ?_
        refine z_iload_n (pc := 24) hX 1 rfl rfl dX0_brushEdges_24 ?_
        refine z_callSN_i (pc := 25) (As := [.int (iI (i / 10)), .int (iI (i % 10)), .int (iI (b))]) (rest := [.int (iI (i)), .ref yd]) (wc := []) (wr := [(y, .inr (0, [.ref ys, .ref yb, .ref ye, .ref yl, .ref yg, .ref ya, .ref yh, .ref yd, .ref yi, .int (iI (im)), .int (iI (ps)), .int (iI (fs)), .int (iI (wd)), .int (iI (rl)), .int (iI (wa)), .int (iI (sn)), .int (iI (al))])), (yd, zI G 40 (V1))]) hX (mX5_brushedIndent G (i / 10) (i % 10) (b) (by first | assumption | omega | (clear ex hX ih_2; grind [uZ])) (by first | assumption | omega | (clear ex hX ih_2; grind [uZ])) (by first | assumption | omega | (clear ex hX ih_2; grind [uZ]))) rfl rfl rfl gX0_brushEdges_X5_brushedIndent_n92 hdX5_brushedIndent (by decide +kernel) kX0_brushEdges_inX5 kX0_brushEdges_stX5_brushedIndent ⟨Nat.le_of_ble_eq_true rfl, Nat.le_of_ble_eq_true rfl⟩ [] [0, 1] rfl rfl (by decide) (by decide) (by decide) rfl (Nat.le_of_ble_eq_true rfl) ⟨Nat.le_of_ble_eq_true rfl, Nat.le_of_ble_eq_true rfl⟩ dX0_brushEdges_25 (fun r_2 u_2 h_2 => ?_)
        subst h_2
        show Z G X 3 (0) (0) [(y, .inr (0, [.ref ys, .ref yb, .ref ye, .ref yl, .ref yg, .ref ya, .ref yh, .ref yd, .ref yi, .int (iI (im)), .int (iI (ps)), .int (iI (fs)), .int (iI (wd)), .int (iI (rl)), .int (iI (wa)), .int (iI (sn)), .int (iI (al))])), (yd, zI G 40 (V1))] 28 [(0, .ref y), (1, .int (iI (b))), (2, .int (iI (i)))] [.int (iI (bIn (i / 10) (i % 10) b)), .int (iI (i)), .ref yd]
        refine z_iast (pc := 28) hX (N := 40) (F := V1) (WS' := [(y, .inr (0, [.ref ys, .ref yb, .ref ye, .ref yl, .ref yg, .ref ya, .ref yh, .ref yd, .ref yi, .int (iI (im)), .int (iI (ps)), .int (iI (fs)), .int (iI (wd)), .int (iI (rl)), .int (iI (wa)), .int (iI (sn)), .int (iI (al))])), (yd, zI G 40 (uZ V1 i (bIn (i / 10) (i % 10) b)))]) 1 rfl (by omega) (by omega) rfl dX0_brushEdges_28 ?_
        refine z_iinc (pc := 29) hX (loc' := [(2, .int (iI (i + 1))), (0, .ref y), (1, .int (iI (b)))]) 2 rfl (by decide) rfl dX0_brushEdges_29 ?_
        refine z_goto (pc := 32) (tgt := 2) hX (by decide) dX0_brushEdges_32 ?_
        refine z_at [1, 2, 0] [0, 1] (loc' := [(0, .ref y), (1, .int (iI (b))), (2, .int (iI ((i + 1))))]) (WS' := [(y, .inr (0, [.ref ys, .ref yb, .ref ye, .ref yl, .ref yg, .ref ya, .ref yh, .ref yd, .ref yi, .int (iI (im)), .int (iI (ps)), .int (iI (fs)), .int (iI (wd)), .int (iI (rl)), .int (iI (wa)), .int (iI (sn)), .int (iI (al))])), (yd, zI G 40 ((uZ V1 i (bIn (i / 10) (i % 10) b))))]) rfl (by decide) rfl ?_
        exact ih_2 (i + 1) (uZ V1 i (bIn (i / 10) (i % 10) b)) (by first | assumption | omega | (clear ex hX ih_2; grind [uZ])) (by first | assumption | omega | (clear ex hX ih_2; grind [uZ])) (by exact uZ_step hV rfl) (by omega)
  refine z_at [1, 2, 0] [0, 1] (loc' := [(0, .ref y), (1, .int (iI (b))), (2, .int (iI (0)))]) (WS' := [(y, .inr (0, [.ref ys, .ref yb, .ref ye, .ref yl, .ref yg, .ref ya, .ref yh, .ref yd, .ref yi, .int (iI (im)), .int (iI (ps)), .int (iI (fs)), .int (iI (wd)), .int (iI (rl)), .int (iI (wa)), .int (iI (sn)), .int (iI (al))])), (yd, zI G 40 (V))]) rfl (by decide) rfl ?_
  exact cut_2 (Int.toNat (40 - 0) + 1) (0) (V) (by first | assumption | omega | (clear ex hX cut_2; grind [uZ])) (by first | assumption | omega | (clear ex hX cut_2; grind [uZ])) (by intro j j0 j1; omega) (by omega)
theorem hX0_storePair_X0 : ∀ w ∈ wsX00, w ∈ wsX0_storePair := by decide +kernel
theorem kX0_storePair_f24 : Cond.fieldLink RX0 24 "SignLetters$Layout" "gaps" "[I" ∈ wsX0_storePair := by decide +kernel
theorem kX0_storePair_f27 : Cond.fieldLink RX0 27 "SignLetters$Layout" "areas" "[I" ∈ wsX0_storePair := by decide +kernel
theorem kX0_storePair_f30 : Cond.fieldLink RX0 30 "SignLetters$Layout" "shares" "[I" ∈ wsX0_storePair := by decide +kernel
theorem kX0_storePair_inX5 : Cond.initialized RX5 ∈ wsX0_storePair := by decide +kernel
theorem kX0_storePair_stX5_store : Cond.static yX5_store ∈ wsX0_storePair := by decide +kernel
set_option maxHeartbeats 400000 in
set_option maxRecDepth 100000 in
theorem mX0_storePair (G : ZG) (y : Nat) (ys : Nat) (yb : Nat) (ye : Nat) (yl : Nat) (yg : Nat) (ya : Nat) (yh : Nat) (yd : Nat) (yi : Nat) (im : Int) (ps : Int) (fs : Int) (wd : Int) (rl : Int) (wa : Int) (sn : Int) (al : Int) (Gp : Int → Int) (Ar : Int → Int) (Sh : Int → Int) (p : Int) (g : Int) (a : Int) (h : Int) (hp : 0 ≤ p ∧ p < 20) : zMetv yX0_storePair wsX0_storePair { frames := 1, cells := 0, slots := 0, locals := 22 } G [.ref y, .int (iI (p)), .int (iI (g)), .int (iI (a)), .int (iI (h))] [(y, .inr (0, [.ref ys, .ref yb, .ref ye, .ref yl, .ref yg, .ref ya, .ref yh, .ref yd, .ref yi, .int (iI (im)), .int (iI (ps)), .int (iI (fs)), .int (iI (wd)), .int (iI (rl)), .int (iI (wa)), .int (iI (sn)), .int (iI (al))])), (yg, zI G 20 (Gp)), (ya, zI G 20 (Ar)), (yh, zI G 20 (Sh))] (fun (uu : Unit) => True) (fun (uu : Unit) => [(y, .inr (0, [.ref ys, .ref yb, .ref ye, .ref yl, .ref yg, .ref ya, .ref yh, .ref yd, .ref yi, .int (iI (im)), .int (iI (ps)), .int (iI (fs)), .int (iI (wd)), .int (iI (rl)), .int (iI (wa)), .int (iI (sn)), .int (iI (al))])), (yg, zI G 20 (uZ Gp p g)), (ya, zI G 20 (uZ Ar p a)), (yh, zI G 20 (uZ Sh p h))]) 0 0 := by
  refine z_metv (cc := cX0_storePair) (nL := 5) (by decide +kernel) rfl (Nat.le_of_ble_eq_true rfl) (fun X hX ex => ?_)
  have hX : ZOk G X 5 cX0_storePair RX0 wsX0_storePair { frames := 1, cells := 0, slots := 0, locals := 22 } := hX
  show Z G X 5 (0) (0) [(y, .inr (0, [.ref ys, .ref yb, .ref ye, .ref yl, .ref yg, .ref ya, .ref yh, .ref yd, .ref yi, .int (iI (im)), .int (iI (ps)), .int (iI (fs)), .int (iI (wd)), .int (iI (rl)), .int (iI (wa)), .int (iI (sn)), .int (iI (al))])), (yg, zI G 20 (Gp)), (ya, zI G 20 (Ar)), (yh, zI G 20 (Sh))] 0 [(0, .ref y), (1, .int (iI (p))), (2, .int (iI (g))), (3, .int (iI (a))), (4, .int (iI (h)))] []
  refine z_aload_n (pc := 0) hX 0 rfl rfl dX0_storePair_0 ?_
  refine z_get (pc := 1) hX (T := TX0) (C := RX0) (N := 17) (i := 24) (ref := "SignLetters$Layout") (name := "gaps") (desc := "[I") hX0_storePair_X0 0 rfl rfl 4 (by decide) kX0_storePair_f24 ⟨rfl, rfl, rfl⟩ (v := .ref yg) rfl dX0_storePair_1 ?_
  refine z_iload_n (pc := 4) hX 1 rfl rfl dX0_storePair_4 ?_
  refine z_iload_n (pc := 5) hX 2 rfl rfl dX0_storePair_5 ?_
  refine z_callSN_v (pc := 6) (As := [.ref yg, .int (iI (p)), .int (iI (g))]) (rest := []) (wc := [(yg, zI G 20 (Gp))]) (wr := [(y, .inr (0, [.ref ys, .ref yb, .ref ye, .ref yl, .ref yg, .ref ya, .ref yh, .ref yd, .ref yi, .int (iI (im)), .int (iI (ps)), .int (iI (fs)), .int (iI (wd)), .int (iI (rl)), .int (iI (wa)), .int (iI (sn)), .int (iI (al))])), (ya, zI G 20 (Ar)), (yh, zI G 20 (Sh))]) hX (mX5_store G (yg) (20) (Gp) (p) (g) (by first | assumption | omega | (clear ex hX; grind [uZ])) (by first | assumption | omega | (clear ex hX; grind [uZ]))) rfl rfl rfl gX0_storePair_X5_store_n46 hdX5_store (by decide +kernel) kX0_storePair_inX5 kX0_storePair_stX5_store ⟨Nat.le_of_ble_eq_true rfl, Nat.le_of_ble_eq_true rfl⟩ [1] [0, 2, 3] rfl rfl (by decide) (by decide) (by decide) rfl (Nat.le_of_ble_eq_true rfl) ⟨Nat.le_of_ble_eq_true rfl, Nat.le_of_ble_eq_true rfl⟩ dX0_storePair_6 (fun u_1 h_1 => ?_)
  show Z G X 5 (0) (0) [(y, .inr (0, [.ref ys, .ref yb, .ref ye, .ref yl, .ref yg, .ref ya, .ref yh, .ref yd, .ref yi, .int (iI (im)), .int (iI (ps)), .int (iI (fs)), .int (iI (wd)), .int (iI (rl)), .int (iI (wa)), .int (iI (sn)), .int (iI (al))])), (ya, zI G 20 (Ar)), (yh, zI G 20 (Sh)), (yg, zI G 20 (uZ Gp p g))] 9 [(0, .ref y), (1, .int (iI (p))), (2, .int (iI (g))), (3, .int (iI (a))), (4, .int (iI (h)))] []
  refine z_aload_n (pc := 9) hX 0 rfl rfl dX0_storePair_9 ?_
  refine z_get (pc := 10) hX (T := TX0) (C := RX0) (N := 17) (i := 27) (ref := "SignLetters$Layout") (name := "areas") (desc := "[I") hX0_storePair_X0 0 rfl rfl 5 (by decide) kX0_storePair_f27 ⟨rfl, rfl, rfl⟩ (v := .ref ya) rfl dX0_storePair_10 ?_
  refine z_iload_n (pc := 13) hX 1 rfl rfl dX0_storePair_13 ?_
  refine z_iload_n (pc := 14) hX 3 rfl rfl dX0_storePair_14 ?_
  refine z_callSN_v (pc := 15) (As := [.ref ya, .int (iI (p)), .int (iI (a))]) (rest := []) (wc := [(ya, zI G 20 (Ar))]) (wr := [(y, .inr (0, [.ref ys, .ref yb, .ref ye, .ref yl, .ref yg, .ref ya, .ref yh, .ref yd, .ref yi, .int (iI (im)), .int (iI (ps)), .int (iI (fs)), .int (iI (wd)), .int (iI (rl)), .int (iI (wa)), .int (iI (sn)), .int (iI (al))])), (yh, zI G 20 (Sh)), (yg, zI G 20 (uZ Gp p g))]) hX (mX5_store G (ya) (20) (Ar) (p) (a) (by first | assumption | omega | (clear ex hX; grind [uZ])) (by first | assumption | omega | (clear ex hX; grind [uZ]))) rfl rfl rfl gX0_storePair_X5_store_n46 hdX5_store (by decide +kernel) kX0_storePair_inX5 kX0_storePair_stX5_store ⟨Nat.le_of_ble_eq_true rfl, Nat.le_of_ble_eq_true rfl⟩ [1] [0, 2, 3] rfl rfl (by decide) (by decide) (by decide) rfl (Nat.le_of_ble_eq_true rfl) ⟨Nat.le_of_ble_eq_true rfl, Nat.le_of_ble_eq_true rfl⟩ dX0_storePair_15 (fun u_2 h_2 => ?_)
  show Z G X 5 (0) (0) [(y, .inr (0, [.ref ys, .ref yb, .ref ye, .ref yl, .ref yg, .ref ya, .ref yh, .ref yd, .ref yi, .int (iI (im)), .int (iI (ps)), .int (iI (fs)), .int (iI (wd)), .int (iI (rl)), .int (iI (wa)), .int (iI (sn)), .int (iI (al))])), (yh, zI G 20 (Sh)), (yg, zI G 20 (uZ Gp p g)), (ya, zI G 20 (uZ Ar p a))] 18 [(0, .ref y), (1, .int (iI (p))), (2, .int (iI (g))), (3, .int (iI (a))), (4, .int (iI (h)))] []
  refine z_aload_n (pc := 18) hX 0 rfl rfl dX0_storePair_18 ?_
  refine z_get (pc := 19) hX (T := TX0) (C := RX0) (N := 17) (i := 30) (ref := "SignLetters$Layout") (name := "shares") (desc := "[I") hX0_storePair_X0 0 rfl rfl 6 (by decide) kX0_storePair_f30 ⟨rfl, rfl, rfl⟩ (v := .ref yh) rfl dX0_storePair_19 ?_
  refine z_iload_n (pc := 22) hX 1 rfl rfl dX0_storePair_22 ?_
  refine z_iload (pc := 23) hX 4 rfl dX0_storePair_23 ?_
  refine z_callSN_v (pc := 25) (As := [.ref yh, .int (iI (p)), .int (iI (h))]) (rest := []) (wc := [(yh, zI G 20 (Sh))]) (wr := [(y, .inr (0, [.ref ys, .ref yb, .ref ye, .ref yl, .ref yg, .ref ya, .ref yh, .ref yd, .ref yi, .int (iI (im)), .int (iI (ps)), .int (iI (fs)), .int (iI (wd)), .int (iI (rl)), .int (iI (wa)), .int (iI (sn)), .int (iI (al))])), (yg, zI G 20 (uZ Gp p g)), (ya, zI G 20 (uZ Ar p a))]) hX (mX5_store G (yh) (20) (Sh) (p) (h) (by first | assumption | omega | (clear ex hX; grind [uZ])) (by first | assumption | omega | (clear ex hX; grind [uZ]))) rfl rfl rfl gX0_storePair_X5_store_n46 hdX5_store (by decide +kernel) kX0_storePair_inX5 kX0_storePair_stX5_store ⟨Nat.le_of_ble_eq_true rfl, Nat.le_of_ble_eq_true rfl⟩ [1] [0, 2, 3] rfl rfl (by decide) (by decide) (by decide) rfl (Nat.le_of_ble_eq_true rfl) ⟨Nat.le_of_ble_eq_true rfl, Nat.le_of_ble_eq_true rfl⟩ dX0_storePair_25 (fun u_3 h_3 => ?_)
  show Z G X 5 (0) (0) [(y, .inr (0, [.ref ys, .ref yb, .ref ye, .ref yl, .ref yg, .ref ya, .ref yh, .ref yd, .ref yi, .int (iI (im)), .int (iI (ps)), .int (iI (fs)), .int (iI (wd)), .int (iI (rl)), .int (iI (wa)), .int (iI (sn)), .int (iI (al))])), (yg, zI G 20 (uZ Gp p g)), (ya, zI G 20 (uZ Ar p a)), (yh, zI G 20 (uZ Sh p h))] 28 [(0, .ref y), (1, .int (iI (p))), (2, .int (iI (g))), (3, .int (iI (a))), (4, .int (iI (h)))] []
  exact ex _ _ () _ dX0_storePair_28 trivial rfl
theorem hX0_layPair_X0 : ∀ w ∈ wsX00, w ∈ wsX0_layPair := by decide +kernel
theorem hdX0_gapBehind : yX0_gapBehind.cls ≠ "java/lang/invoke/MethodHandle" ∧ yX0_gapBehind.cls ≠ "java/lang/invoke/VarHandle" ∧ (parseMethodDescriptor yX0_gapBehind.desc).map (fun d => d.parameters.length) = some 2 := by decide +kernel
theorem hdX0_leastGap : yX0_leastGap.cls ≠ "java/lang/invoke/MethodHandle" ∧ yX0_leastGap.cls ≠ "java/lang/invoke/VarHandle" ∧ (parseMethodDescriptor yX0_leastGap.desc).map (fun d => d.parameters.length) = some 0 := by decide +kernel
theorem hdX0_shareOf : yX0_shareOf.cls ≠ "java/lang/invoke/MethodHandle" ∧ yX0_shareOf.cls ≠ "java/lang/invoke/VarHandle" ∧ (parseMethodDescriptor yX0_shareOf.desc).map (fun d => d.parameters.length) = some 1 := by decide +kernel
theorem hdX0_storePair : yX0_storePair.cls ≠ "java/lang/invoke/MethodHandle" ∧ yX0_storePair.cls ≠ "java/lang/invoke/VarHandle" ∧ (parseMethodDescriptor yX0_storePair.desc).map (fun d => d.parameters.length) = some 4 := by decide +kernel
theorem kX0_layPair_f21 : Cond.fieldLink RX0 21 "SignLetters$Layout" "leastGaps" "[I" ∈ wsX0_layPair := by decide +kernel
theorem kX0_layPair_f64 : Cond.fieldLink RX0 64 "SignLetters$Layout" "allowedShare" "I" ∈ wsX0_layPair := by decide +kernel
theorem kX0_layPair_f75 : Cond.fieldLink RX0 75 "SignLetters$Layout" "pairs" "I" ∈ wsX0_layPair := by decide +kernel
theorem kX0_layPair_f78 : Cond.fieldLink RX0 78 "SignLetters$Layout" "faults" "I" ∈ wsX0_layPair := by decide +kernel
theorem kX0_layPair_f81 : Cond.fieldLink RX0 81 "SignLetters$Layout" "width" "I" ∈ wsX0_layPair := by decide +kernel
theorem kX0_layPair_inX5 : Cond.initialized RX5 ∈ wsX0_layPair := by decide +kernel
theorem kX0_layPair_stX5_store : Cond.static yX5_store ∈ wsX0_layPair := by decide +kernel
set_option maxHeartbeats 400000 in
set_option maxRecDepth 100000 in
theorem mX0_layPair (G : ZG) (y : Nat) (ys : Nat) (yb : Nat) (ye : Nat) (yl : Nat) (yg : Nat) (ya : Nat) (yh : Nat) (yd : Nat) (yi : Nat) (im : Int) (ps : Int) (fs : Int) (wd : Int) (rl : Int) (wa : Int) (sn : Int) (al : Int) (N : Int → Int) (Lg : Int → Int) (Gp : Int → Int) (Ar : Int → Int) (Sh : Int → Int) (p : Int) (q : Int) (hN : ∀ q : Int, 0 ≤ q → q < 10 → 0 ≤ N q ∧ N q ≤ 8) (hp : 0 ≤ p ∧ p < 20) (hq : -5 ≤ q ∧ q ≤ 5) (hr : 0 ≤ rl ∧ rl ≤ 40) (hw : 10 ≤ wa ∧ wa ≤ 300) (hs : 1 ≤ sn ∧ sn ≤ 12) (hal : 0 ≤ al ∧ al ≤ 100) (he : 0 ≤ wd ∧ wd ≤ 10000) : zMeti yX0_layPair wsX0_layPair { frames := 2, cells := 0, slots := 0, locals := 46 } G [.ref y, .int (iI (p)), .int (iI (q))] [(y, .inr (0, [.ref ys, .ref yb, .ref ye, .ref yl, .ref yg, .ref ya, .ref yh, .ref yd, .ref yi, .int (iI (im)), .int (iI (ps)), .int (iI (fs)), .int (iI (wd)), .int (iI (rl)), .int (iI (wa)), .int (iI (sn)), .int (iI (al))])), (yi, zI G 10 (N)), (yl, zI G 20 (Lg)), (yg, zI G 20 (Gp)), (ya, zI G 20 (Ar)), (yh, zI G 20 (Sh))] (fun (rr : Int32) (uu : Unit) => rr = iI (gpS sn wd (lgS N rl wa + q))) (fun (uu : Unit) => [(y, .inr (0, [.ref ys, .ref yb, .ref ye, .ref yl, .ref yg, .ref ya, .ref yh, .ref yd, .ref yi, .int (iI (im)), .int (iI (ps + 1)), .int (iI (fs + (if al < shS wa (arS N rl (gpS sn wd (lgS N rl wa + q))) then 1 else 0))), .int (iI (wd)), .int (iI (rl)), .int (iI (wa)), .int (iI (sn)), .int (iI (al))])), (yi, zI G 10 (N)), (yl, zI G 20 (uZ Lg p (lgS N rl wa))), (yg, zI G 20 (uZ Gp p (gpS sn wd (lgS N rl wa + q)))), (ya, zI G 20 (uZ Ar p (arS N rl (gpS sn wd (lgS N rl wa + q))))), (yh, zI G 20 (uZ Sh p (shS wa (arS N rl (gpS sn wd (lgS N rl wa + q))))))]) 0 0 := by
  refine z_meti (cc := cX0_layPair) (nL := 7) (rt := .int) (by decide +kernel) rfl (Nat.le_of_ble_eq_true rfl) (fun X hX ex => ?_)
  have hX : ZOk G X 7 cX0_layPair RX0 wsX0_layPair { frames := 2, cells := 0, slots := 0, locals := 46 } := hX
  show Z G X 7 (0) (0) [(y, .inr (0, [.ref ys, .ref yb, .ref ye, .ref yl, .ref yg, .ref ya, .ref yh, .ref yd, .ref yi, .int (iI (im)), .int (iI (ps)), .int (iI (fs)), .int (iI (wd)), .int (iI (rl)), .int (iI (wa)), .int (iI (sn)), .int (iI (al))])), (yi, zI G 10 (N)), (yl, zI G 20 (Lg)), (yg, zI G 20 (Gp)), (ya, zI G 20 (Ar)), (yh, zI G 20 (Sh))] 0 [(0, .ref y), (1, .int (iI (p))), (2, .int (iI (q)))] []
  have hlg := lgS_r N rl wa
  have hgp := gpS_r (e := wd) (w := lgS N rl wa + q) hs
  have hgp2 : 0 ≤ gpS sn wd (lgS N rl wa + q) ∧ gpS sn wd (lgS N rl wa + q) ≤ 56 := by split at hgp <;> omega
  have har := arS_r (rl := rl) (g := gpS sn wd (lgS N rl wa + q)) hN hgp2.1 hr
  have hsh := shS_r (wa := wa) (ar := arS N rl (gpS sn wd (lgS N rl wa + q))) hw (by omega)
  refine z_aload_n (pc := 0) hX 0 rfl rfl dX0_layPair_0 ?_
  refine z_callV_i (pc := 1) (As := []) (rest := []) (wc := [(y, .inr (0, [.ref ys, .ref yb, .ref ye, .ref yl, .ref yg, .ref ya, .ref yh, .ref yd, .ref yi, .int (iI (im)), .int (iI (ps)), .int (iI (fs)), .int (iI (wd)), .int (iI (rl)), .int (iI (wa)), .int (iI (sn)), .int (iI (al))])), (yi, zI G 10 (N))]) (wr := [(yl, zI G 20 (Lg)), (yg, zI G 20 (Gp)), (ya, zI G 20 (Ar)), (yh, zI G 20 (Sh))]) hX (mX0_leastGap G (y) (ys) (yb) (ye) (yl) (yg) (ya) (yh) (yd) (yi) (im) (ps) (fs) (wd) (rl) (wa) (sn) (al) (N) (by first | assumption | omega | (clear ex hX; grind [uZ])) (by first | assumption | omega | (clear ex hX; grind [uZ])) (by first | assumption | omega | (clear ex hX; grind [uZ]))) rfl rfl rfl (C := RX0) gX0_layPair_X0_leastGap ⟨rfl, hdX0_leastGap⟩ (T := TX0) (N := 17) 0 rfl rfl ⟨Nat.le_of_ble_eq_true rfl, Nat.le_of_ble_eq_true rfl⟩ [0, 1] [2, 3, 4, 5] rfl rfl (by decide) (by decide) (by decide) rfl (Nat.le_of_ble_eq_true rfl) ⟨Nat.le_of_ble_eq_true rfl, Nat.le_of_ble_eq_true rfl⟩ dX0_layPair_1 (fun r_1 u_1 h_1 => ?_)
  subst h_1
  show Z G X 7 (0) (0) [(yl, zI G 20 (Lg)), (yg, zI G 20 (Gp)), (ya, zI G 20 (Ar)), (yh, zI G 20 (Sh)), (y, .inr (0, [.ref ys, .ref yb, .ref ye, .ref yl, .ref yg, .ref ya, .ref yh, .ref yd, .ref yi, .int (iI (im)), .int (iI (ps)), .int (iI (fs)), .int (iI (wd)), .int (iI (rl)), .int (iI (wa)), .int (iI (sn)), .int (iI (al))])), (yi, zI G 10 (N))] 4 [(0, .ref y), (1, .int (iI (p))), (2, .int (iI (q)))] [.int (iI (lgS N rl wa))]
  refine z_istore_n (pc := 4) hX (loc' := [(3, .int (iI (lgS N rl wa))), (0, .ref y), (1, .int (iI (p))), (2, .int (iI (q)))]) rfl (by decide) rfl dX0_layPair_4 ?_
  refine z_aload_n (pc := 5) hX 1 rfl rfl dX0_layPair_5 ?_
  refine z_aload_n (pc := 6) hX 1 rfl rfl dX0_layPair_6 ?_
  refine z_get (pc := 7) hX (T := TX0) (C := RX0) (N := 17) (i := 81) (ref := "SignLetters$Layout") (name := "width") (desc := "I") hX0_layPair_X0 4 rfl rfl 12 (by decide) kX0_layPair_f81 ⟨rfl, rfl, rfl⟩ (v := .int (iI (wd))) rfl dX0_layPair_7 ?_
  refine z_iload_n (pc := 10) hX 0 rfl rfl dX0_layPair_10 ?_
  refine z_iload_n (pc := 11) hX 3 rfl rfl dX0_layPair_11 ?_
  refine z_iadd (pc := 12) hX dX0_layPair_12 ?_
  refine z_callV_i (pc := 13) (As := [.int (iI (wd)), .int (iI ((lgS N rl wa) + q))]) (rest := []) (wc := [(y, .inr (0, [.ref ys, .ref yb, .ref ye, .ref yl, .ref yg, .ref ya, .ref yh, .ref yd, .ref yi, .int (iI (im)), .int (iI (ps)), .int (iI (fs)), .int (iI (wd)), .int (iI (rl)), .int (iI (wa)), .int (iI (sn)), .int (iI (al))]))]) (wr := [(yl, zI G 20 (Lg)), (yg, zI G 20 (Gp)), (ya, zI G 20 (Ar)), (yh, zI G 20 (Sh)), (yi, zI G 10 (N))]) hX (mX0_gapBehind G (y) (ys) (yb) (ye) (yl) (yg) (ya) (yh) (yd) (yi) (im) (ps) (fs) (wd) (rl) (wa) (sn) (al) (wd) ((lgS N rl wa) + q) (by first | assumption | omega | (clear ex hX; grind [uZ])) (by first | assumption | omega | (clear ex hX; grind [uZ])) (by first | assumption | omega | (clear ex hX; grind [uZ]))) rfl rfl rfl (C := RX0) gX0_layPair_X0_gapBehind ⟨rfl, hdX0_gapBehind⟩ (T := TX0) (N := 17) 0 rfl rfl ⟨Nat.le_of_ble_eq_true rfl, Nat.le_of_ble_eq_true rfl⟩ [4] [0, 1, 2, 3, 5] rfl rfl (by decide) (by decide) (by decide) rfl (Nat.le_of_ble_eq_true rfl) ⟨Nat.le_of_ble_eq_true rfl, Nat.le_of_ble_eq_true rfl⟩ dX0_layPair_13 (fun r_2 u_2 h_2 => ?_)
  subst h_2
  show Z G X 7 (0) (0) [(yl, zI G 20 (Lg)), (yg, zI G 20 (Gp)), (ya, zI G 20 (Ar)), (yh, zI G 20 (Sh)), (yi, zI G 10 (N)), (y, .inr (0, [.ref ys, .ref yb, .ref ye, .ref yl, .ref yg, .ref ya, .ref yh, .ref yd, .ref yi, .int (iI (im)), .int (iI (ps)), .int (iI (fs)), .int (iI (wd)), .int (iI (rl)), .int (iI (wa)), .int (iI (sn)), .int (iI (al))]))] 16 [(3, .int (iI (lgS N rl wa))), (0, .ref y), (1, .int (iI (p))), (2, .int (iI (q)))] [.int (iI (gpS sn wd ((lgS N rl wa) + q)))]
  refine z_istore (pc := 16) hX (loc' := [(4, .int (iI (gpS sn wd ((lgS N rl wa) + q)))), (3, .int (iI (lgS N rl wa))), (0, .ref y), (1, .int (iI (p))), (2, .int (iI (q)))]) (by decide) rfl dX0_layPair_16 ?_
  refine z_aload_n (pc := 18) hX 2 rfl rfl dX0_layPair_18 ?_
  refine z_iload (pc := 19) hX 0 rfl dX0_layPair_19 ?_
  refine z_callV_i (pc := 21) (As := [.int (iI (gpS sn wd ((lgS N rl wa) + q)))]) (rest := []) (wc := [(y, .inr (0, [.ref ys, .ref yb, .ref ye, .ref yl, .ref yg, .ref ya, .ref yh, .ref yd, .ref yi, .int (iI (im)), .int (iI (ps)), .int (iI (fs)), .int (iI (wd)), .int (iI (rl)), .int (iI (wa)), .int (iI (sn)), .int (iI (al))])), (yi, zI G 10 (N))]) (wr := [(yl, zI G 20 (Lg)), (yg, zI G 20 (Gp)), (ya, zI G 20 (Ar)), (yh, zI G 20 (Sh))]) hX (mX0_areaBy G (y) (ys) (yb) (ye) (yl) (yg) (ya) (yh) (yd) (yi) (im) (ps) (fs) (wd) (rl) (wa) (sn) (al) (N) (gpS sn wd ((lgS N rl wa) + q)) (by first | assumption | omega | (clear ex hX; grind [uZ])) (by first | assumption | omega | (clear ex hX; grind [uZ])) (by first | assumption | omega | (clear ex hX; grind [uZ]))) rfl rfl rfl (C := RX0) gX0_layPair_X0_areaBy ⟨rfl, hdX0_areaBy⟩ (T := TX0) (N := 17) 0 rfl rfl ⟨Nat.le_of_ble_eq_true rfl, Nat.le_of_ble_eq_true rfl⟩ [5, 4] [0, 1, 2, 3] rfl rfl (by decide) (by decide) (by decide) rfl (Nat.le_of_ble_eq_true rfl) ⟨Nat.le_of_ble_eq_true rfl, Nat.le_of_ble_eq_true rfl⟩ dX0_layPair_21 (fun r_3 u_3 h_3 => ?_)
  subst h_3
  show Z G X 7 (0) (0) [(yl, zI G 20 (Lg)), (yg, zI G 20 (Gp)), (ya, zI G 20 (Ar)), (yh, zI G 20 (Sh)), (y, .inr (0, [.ref ys, .ref yb, .ref ye, .ref yl, .ref yg, .ref ya, .ref yh, .ref yd, .ref yi, .int (iI (im)), .int (iI (ps)), .int (iI (fs)), .int (iI (wd)), .int (iI (rl)), .int (iI (wa)), .int (iI (sn)), .int (iI (al))])), (yi, zI G 10 (N))] 24 [(4, .int (iI (gpS sn wd ((lgS N rl wa) + q)))), (3, .int (iI (lgS N rl wa))), (0, .ref y), (1, .int (iI (p))), (2, .int (iI (q)))] [.int (iI (arS N rl (gpS sn wd ((lgS N rl wa) + q))))]
  refine z_istore (pc := 24) hX (loc' := [(5, .int (iI (arS N rl (gpS sn wd ((lgS N rl wa) + q))))), (4, .int (iI (gpS sn wd ((lgS N rl wa) + q)))), (3, .int (iI (lgS N rl wa))), (0, .ref y), (1, .int (iI (p))), (2, .int (iI (q)))]) (by decide) rfl dX0_layPair_24 ?_
  refine z_aload_n (pc := 26) hX 3 rfl rfl dX0_layPair_26 ?_
  refine z_iload (pc := 27) hX 0 rfl dX0_layPair_27 ?_
  refine z_callV_i (pc := 29) (As := [.int (iI (arS N rl (gpS sn wd ((lgS N rl wa) + q))))]) (rest := []) (wc := [(y, .inr (0, [.ref ys, .ref yb, .ref ye, .ref yl, .ref yg, .ref ya, .ref yh, .ref yd, .ref yi, .int (iI (im)), .int (iI (ps)), .int (iI (fs)), .int (iI (wd)), .int (iI (rl)), .int (iI (wa)), .int (iI (sn)), .int (iI (al))]))]) (wr := [(yl, zI G 20 (Lg)), (yg, zI G 20 (Gp)), (ya, zI G 20 (Ar)), (yh, zI G 20 (Sh)), (yi, zI G 10 (N))]) hX (mX0_shareOf G (y) (ys) (yb) (ye) (yl) (yg) (ya) (yh) (yd) (yi) (im) (ps) (fs) (wd) (rl) (wa) (sn) (al) (arS N rl (gpS sn wd ((lgS N rl wa) + q))) (by first | assumption | omega | (clear ex hX; grind [uZ])) (by first | assumption | omega | (clear ex hX; grind [uZ]))) rfl rfl rfl (C := RX0) gX0_layPair_X0_shareOf ⟨rfl, hdX0_shareOf⟩ (T := TX0) (N := 17) 0 rfl rfl ⟨Nat.le_of_ble_eq_true rfl, Nat.le_of_ble_eq_true rfl⟩ [4] [0, 1, 2, 3, 5] rfl rfl (by decide) (by decide) (by decide) rfl (Nat.le_of_ble_eq_true rfl) ⟨Nat.le_of_ble_eq_true rfl, Nat.le_of_ble_eq_true rfl⟩ dX0_layPair_29 (fun r_4 u_4 h_4 => ?_)
  subst h_4
  show Z G X 7 (0) (0) [(yl, zI G 20 (Lg)), (yg, zI G 20 (Gp)), (ya, zI G 20 (Ar)), (yh, zI G 20 (Sh)), (yi, zI G 10 (N)), (y, .inr (0, [.ref ys, .ref yb, .ref ye, .ref yl, .ref yg, .ref ya, .ref yh, .ref yd, .ref yi, .int (iI (im)), .int (iI (ps)), .int (iI (fs)), .int (iI (wd)), .int (iI (rl)), .int (iI (wa)), .int (iI (sn)), .int (iI (al))]))] 32 [(5, .int (iI (arS N rl (gpS sn wd ((lgS N rl wa) + q))))), (4, .int (iI (gpS sn wd ((lgS N rl wa) + q)))), (3, .int (iI (lgS N rl wa))), (0, .ref y), (1, .int (iI (p))), (2, .int (iI (q)))] [.int (iI (shS wa (arS N rl (gpS sn wd ((lgS N rl wa) + q)))))]
  refine z_istore (pc := 32) hX (loc' := [(6, .int (iI (shS wa (arS N rl (gpS sn wd ((lgS N rl wa) + q)))))), (5, .int (iI (arS N rl (gpS sn wd ((lgS N rl wa) + q))))), (4, .int (iI (gpS sn wd ((lgS N rl wa) + q)))), (3, .int (iI (lgS N rl wa))), (0, .ref y), (1, .int (iI (p))), (2, .int (iI (q)))]) (by decide) rfl dX0_layPair_32 ?_
  refine z_aload_n (pc := 34) hX 4 rfl rfl dX0_layPair_34 ?_
  refine z_get (pc := 35) hX (T := TX0) (C := RX0) (N := 17) (i := 21) (ref := "SignLetters$Layout") (name := "leastGaps") (desc := "[I") hX0_layPair_X0 5 rfl rfl 3 (by decide) kX0_layPair_f21 ⟨rfl, rfl, rfl⟩ (v := .ref yl) rfl dX0_layPair_35 ?_
  refine z_iload_n (pc := 38) hX 5 rfl rfl dX0_layPair_38 ?_
  refine z_iload_n (pc := 39) hX 3 rfl rfl dX0_layPair_39 ?_
  refine z_callSN_v (pc := 40) (As := [.ref yl, .int (iI (p)), .int (iI (lgS N rl wa))]) (rest := []) (wc := [(yl, zI G 20 (Lg))]) (wr := [(yg, zI G 20 (Gp)), (ya, zI G 20 (Ar)), (yh, zI G 20 (Sh)), (yi, zI G 10 (N)), (y, .inr (0, [.ref ys, .ref yb, .ref ye, .ref yl, .ref yg, .ref ya, .ref yh, .ref yd, .ref yi, .int (iI (im)), .int (iI (ps)), .int (iI (fs)), .int (iI (wd)), .int (iI (rl)), .int (iI (wa)), .int (iI (sn)), .int (iI (al))]))]) hX (mX5_store G (yl) (20) (Lg) (p) (lgS N rl wa) (by first | assumption | omega | (clear ex hX; grind [uZ])) (by first | assumption | omega | (clear ex hX; grind [uZ]))) rfl rfl rfl gX0_layPair_X5_store_n46 hdX5_store (by decide +kernel) kX0_layPair_inX5 kX0_layPair_stX5_store ⟨Nat.le_of_ble_eq_true rfl, Nat.le_of_ble_eq_true rfl⟩ [0] [1, 2, 3, 4, 5] rfl rfl (by decide) (by decide) (by decide) rfl (Nat.le_of_ble_eq_true rfl) ⟨Nat.le_of_ble_eq_true rfl, Nat.le_of_ble_eq_true rfl⟩ dX0_layPair_40 (fun u_5 h_5 => ?_)
  show Z G X 7 (0) (0) [(yg, zI G 20 (Gp)), (ya, zI G 20 (Ar)), (yh, zI G 20 (Sh)), (yi, zI G 10 (N)), (y, .inr (0, [.ref ys, .ref yb, .ref ye, .ref yl, .ref yg, .ref ya, .ref yh, .ref yd, .ref yi, .int (iI (im)), .int (iI (ps)), .int (iI (fs)), .int (iI (wd)), .int (iI (rl)), .int (iI (wa)), .int (iI (sn)), .int (iI (al))])), (yl, zI G 20 (uZ Lg p (lgS N rl wa)))] 43 [(6, .int (iI (shS wa (arS N rl (gpS sn wd ((lgS N rl wa) + q)))))), (5, .int (iI (arS N rl (gpS sn wd ((lgS N rl wa) + q))))), (4, .int (iI (gpS sn wd ((lgS N rl wa) + q)))), (3, .int (iI (lgS N rl wa))), (0, .ref y), (1, .int (iI (p))), (2, .int (iI (q)))] []
  refine z_aload_n (pc := 43) hX 4 rfl rfl dX0_layPair_43 ?_
  refine z_iload_n (pc := 44) hX 5 rfl rfl dX0_layPair_44 ?_
  refine z_iload (pc := 45) hX 2 rfl dX0_layPair_45 ?_
  refine z_iload (pc := 47) hX 1 rfl dX0_layPair_47 ?_
  refine z_iload (pc := 49) hX 0 rfl dX0_layPair_49 ?_
  refine z_callV_v (pc := 51) (As := [.int (iI (p)), .int (iI (gpS sn wd ((lgS N rl wa) + q))), .int (iI (arS N rl (gpS sn wd ((lgS N rl wa) + q)))), .int (iI (shS wa (arS N rl (gpS sn wd ((lgS N rl wa) + q)))))]) (rest := []) (wc := [(y, .inr (0, [.ref ys, .ref yb, .ref ye, .ref yl, .ref yg, .ref ya, .ref yh, .ref yd, .ref yi, .int (iI (im)), .int (iI (ps)), .int (iI (fs)), .int (iI (wd)), .int (iI (rl)), .int (iI (wa)), .int (iI (sn)), .int (iI (al))])), (yg, zI G 20 (Gp)), (ya, zI G 20 (Ar)), (yh, zI G 20 (Sh))]) (wr := [(yi, zI G 10 (N)), (yl, zI G 20 (uZ Lg p (lgS N rl wa)))]) hX (mX0_storePair G (y) (ys) (yb) (ye) (yl) (yg) (ya) (yh) (yd) (yi) (im) (ps) (fs) (wd) (rl) (wa) (sn) (al) (Gp) (Ar) (Sh) (p) (gpS sn wd ((lgS N rl wa) + q)) (arS N rl (gpS sn wd ((lgS N rl wa) + q))) (shS wa (arS N rl (gpS sn wd ((lgS N rl wa) + q)))) (by first | assumption | omega | (clear ex hX; grind [uZ]))) rfl rfl rfl (C := RX0) gX0_layPair_X0_storePair ⟨rfl, hdX0_storePair⟩ (T := TX0) (N := 17) 0 rfl rfl ⟨Nat.le_of_ble_eq_true rfl, Nat.le_of_ble_eq_true rfl⟩ [4, 0, 1, 2] [3, 5] rfl rfl (by decide) (by decide) (by decide) rfl (Nat.le_of_ble_eq_true rfl) ⟨Nat.le_of_ble_eq_true rfl, Nat.le_of_ble_eq_true rfl⟩ dX0_layPair_51 (fun u_6 h_6 => ?_)
  show Z G X 7 (0) (0) [(yi, zI G 10 (N)), (yl, zI G 20 (uZ Lg p (lgS N rl wa))), (y, .inr (0, [.ref ys, .ref yb, .ref ye, .ref yl, .ref yg, .ref ya, .ref yh, .ref yd, .ref yi, .int (iI (im)), .int (iI (ps)), .int (iI (fs)), .int (iI (wd)), .int (iI (rl)), .int (iI (wa)), .int (iI (sn)), .int (iI (al))])), (yg, zI G 20 (uZ Gp p (gpS sn wd ((lgS N rl wa) + q)))), (ya, zI G 20 (uZ Ar p (arS N rl (gpS sn wd ((lgS N rl wa) + q))))), (yh, zI G 20 (uZ Sh p (shS wa (arS N rl (gpS sn wd ((lgS N rl wa) + q))))))] 54 [(6, .int (iI (shS wa (arS N rl (gpS sn wd ((lgS N rl wa) + q)))))), (5, .int (iI (arS N rl (gpS sn wd ((lgS N rl wa) + q))))), (4, .int (iI (gpS sn wd ((lgS N rl wa) + q)))), (3, .int (iI (lgS N rl wa))), (0, .ref y), (1, .int (iI (p))), (2, .int (iI (q)))] []
  refine z_aload_n (pc := 54) hX 4 rfl rfl dX0_layPair_54 ?_
  refine z_dup (pc := 55) hX rfl dX0_layPair_55 ?_
  refine z_get (pc := 56) hX (T := TX0) (C := RX0) (N := 17) (i := 75) (ref := "SignLetters$Layout") (name := "pairs") (desc := "I") hX0_layPair_X0 2 rfl rfl 10 (by decide) kX0_layPair_f75 ⟨rfl, rfl, rfl⟩ (v := .int (iI (ps))) rfl dX0_layPair_56 ?_
  refine z_iconst (pc := 59) hX dX0_layPair_59 ?_
  refine z_iadd (pc := 60) hX dX0_layPair_60 ?_
  refine z_put (pc := 61) hX (T := TX0) (C := RX0) (N := 17) (i := 75) (ref := "SignLetters$Layout") (name := "pairs") (desc := "I") (WS' := [(yi, zI G 10 (N)), (yl, zI G 20 (uZ Lg p (lgS N rl wa))), (y, .inr (0, [.ref ys, .ref yb, .ref ye, .ref yl, .ref yg, .ref ya, .ref yh, .ref yd, .ref yi, .int (iI (im)), .int (iI (ps + 1)), .int (iI (fs)), .int (iI (wd)), .int (iI (rl)), .int (iI (wa)), .int (iI (sn)), .int (iI (al))])), (yg, zI G 20 (uZ Gp p (gpS sn wd ((lgS N rl wa) + q)))), (ya, zI G 20 (uZ Ar p (arS N rl (gpS sn wd ((lgS N rl wa) + q))))), (yh, zI G 20 (uZ Sh p (shS wa (arS N rl (gpS sn wd ((lgS N rl wa) + q))))))]) tyX0 tyX0_ok nmX0 hX0_layPair_X0 2 rfl rfl 10 (by decide) kX0_layPair_f75 ⟨rfl, rfl, rfl⟩ rfl (ty := .int) (by decide +kernel) rfl rfl (Nat.le_of_ble_eq_true rfl) rfl dX0_layPair_61 ?_
  refine z_iload (pc := 64) hX 0 rfl dX0_layPair_64 ?_
  refine z_aload_n (pc := 66) hX 4 rfl rfl dX0_layPair_66 ?_
  refine z_get (pc := 67) hX (T := TX0) (C := RX0) (N := 17) (i := 64) (ref := "SignLetters$Layout") (name := "allowedShare") (desc := "I") hX0_layPair_X0 2 rfl rfl 16 (by decide) kX0_layPair_f64 ⟨rfl, rfl, rfl⟩ (v := .int (iI (al))) rfl dX0_layPair_67 ?_
  refine z_icmp_le (pc := 70) (tgt := 83) hX (by decide) (by omega) (by omega) dX0_layPair_70 (fun c_7 => ?_) (fun c_7 => ?_)
  · refine z_iload (pc := 83) hX 2 rfl dX0_layPair_83 ?_
    refine z_at [0, 1, 2, 3, 4, 5, 6] [2, 0, 1, 3, 4, 5] (loc' := [(6, .int (iI (shS wa (arS N rl (gpS sn wd ((lgS N rl wa) + q)))))), (5, .int (iI (arS N rl (gpS sn wd ((lgS N rl wa) + q))))), (4, .int (iI (gpS sn wd ((lgS N rl wa) + q)))), (3, .int (iI (lgS N rl wa))), (0, .ref y), (1, .int (iI (p))), (2, .int (iI (q)))]) (WS' := [(y, .inr (0, [.ref ys, .ref yb, .ref ye, .ref yl, .ref yg, .ref ya, .ref yh, .ref yd, .ref yi, .int (iI (im)), .int (iI (ps + 1)), .int (iI (fs)), .int (iI (wd)), .int (iI (rl)), .int (iI (wa)), .int (iI (sn)), .int (iI (al))])), (yi, zI G 10 (N)), (yl, zI G 20 (uZ Lg p (lgS N rl wa))), (yg, zI G 20 (uZ Gp p (gpS sn wd ((lgS N rl wa) + q)))), (ya, zI G 20 (uZ Ar p (arS N rl (gpS sn wd ((lgS N rl wa) + q))))), (yh, zI G 20 (uZ Sh p (shS wa (arS N rl (gpS sn wd ((lgS N rl wa) + q))))))]) rfl (by decide) rfl ?_
    refine (congrArg (fun z_ : Int => Z G X 7 (0) (0) [(y, .inr (0, [.ref ys, .ref yb, .ref ye, .ref yl, .ref yg, .ref ya, .ref yh, .ref yd, .ref yi, .int (iI (im)), .int (iI (ps + 1)), .int (iI (z_)), .int (iI (wd)), .int (iI (rl)), .int (iI (wa)), .int (iI (sn)), .int (iI (al))])), (yi, zI G 10 (N)), (yl, zI G 20 (uZ Lg p (lgS N rl wa))), (yg, zI G 20 (uZ Gp p (gpS sn wd ((lgS N rl wa) + q)))), (ya, zI G 20 (uZ Ar p (arS N rl (gpS sn wd ((lgS N rl wa) + q))))), (yh, zI G 20 (uZ Sh p (shS wa (arS N rl (gpS sn wd ((lgS N rl wa) + q))))))] 85 [(6, .int (iI (shS wa (arS N rl (gpS sn wd ((lgS N rl wa) + q)))))), (5, .int (iI (arS N rl (gpS sn wd ((lgS N rl wa) + q))))), (4, .int (iI (gpS sn wd ((lgS N rl wa) + q)))), (3, .int (iI (lgS N rl wa))), (0, .ref y), (1, .int (iI (p))), (2, .int (iI (q)))] [.int (iI (gpS sn wd ((lgS N rl wa) + q)))]) (show (fs : Int) = fs + (if al < shS wa (arS N rl (gpS sn wd (lgS N rl wa + q))) then 1 else 0) from by first | rfl | omega | (split <;> omega))).mpr ?_
    exact ex _ _ _ () _ dX0_layPair_85 rfl (congrArg iI (show (gpS sn wd ((lgS N rl wa) + q) : Int) = gpS sn wd (lgS N rl wa + q) from by first | rfl | omega | (clear ex hX; grind [uZ]))) rfl
  · refine z_aload_n (pc := 73) hX 4 rfl rfl dX0_layPair_73 ?_
    refine z_dup (pc := 74) hX rfl dX0_layPair_74 ?_
    refine z_get (pc := 75) hX (T := TX0) (C := RX0) (N := 17) (i := 78) (ref := "SignLetters$Layout") (name := "faults") (desc := "I") hX0_layPair_X0 2 rfl rfl 11 (by decide) kX0_layPair_f78 ⟨rfl, rfl, rfl⟩ (v := .int (iI (fs))) rfl dX0_layPair_75 ?_
    refine z_iconst (pc := 78) hX dX0_layPair_78 ?_
    refine z_iadd (pc := 79) hX dX0_layPair_79 ?_
    refine z_put (pc := 80) hX (T := TX0) (C := RX0) (N := 17) (i := 78) (ref := "SignLetters$Layout") (name := "faults") (desc := "I") (WS' := [(yi, zI G 10 (N)), (yl, zI G 20 (uZ Lg p (lgS N rl wa))), (y, .inr (0, [.ref ys, .ref yb, .ref ye, .ref yl, .ref yg, .ref ya, .ref yh, .ref yd, .ref yi, .int (iI (im)), .int (iI (ps + 1)), .int (iI (fs + 1)), .int (iI (wd)), .int (iI (rl)), .int (iI (wa)), .int (iI (sn)), .int (iI (al))])), (yg, zI G 20 (uZ Gp p (gpS sn wd ((lgS N rl wa) + q)))), (ya, zI G 20 (uZ Ar p (arS N rl (gpS sn wd ((lgS N rl wa) + q))))), (yh, zI G 20 (uZ Sh p (shS wa (arS N rl (gpS sn wd ((lgS N rl wa) + q))))))]) tyX0 tyX0_ok nmX0 hX0_layPair_X0 2 rfl rfl 11 (by decide) kX0_layPair_f78 ⟨rfl, rfl, rfl⟩ rfl (ty := .int) (by decide +kernel) rfl rfl (Nat.le_of_ble_eq_true rfl) rfl dX0_layPair_80 ?_
    refine z_iload (pc := 83) hX 2 rfl dX0_layPair_83 ?_
    refine z_at [0, 1, 2, 3, 4, 5, 6] [2, 0, 1, 3, 4, 5] (loc' := [(6, .int (iI (shS wa (arS N rl (gpS sn wd ((lgS N rl wa) + q)))))), (5, .int (iI (arS N rl (gpS sn wd ((lgS N rl wa) + q))))), (4, .int (iI (gpS sn wd ((lgS N rl wa) + q)))), (3, .int (iI (lgS N rl wa))), (0, .ref y), (1, .int (iI (p))), (2, .int (iI (q)))]) (WS' := [(y, .inr (0, [.ref ys, .ref yb, .ref ye, .ref yl, .ref yg, .ref ya, .ref yh, .ref yd, .ref yi, .int (iI (im)), .int (iI (ps + 1)), .int (iI (fs + 1)), .int (iI (wd)), .int (iI (rl)), .int (iI (wa)), .int (iI (sn)), .int (iI (al))])), (yi, zI G 10 (N)), (yl, zI G 20 (uZ Lg p (lgS N rl wa))), (yg, zI G 20 (uZ Gp p (gpS sn wd ((lgS N rl wa) + q)))), (ya, zI G 20 (uZ Ar p (arS N rl (gpS sn wd ((lgS N rl wa) + q))))), (yh, zI G 20 (uZ Sh p (shS wa (arS N rl (gpS sn wd ((lgS N rl wa) + q))))))]) rfl (by decide) rfl ?_
    refine (congrArg (fun z_ : Int => Z G X 7 (0) (0) [(y, .inr (0, [.ref ys, .ref yb, .ref ye, .ref yl, .ref yg, .ref ya, .ref yh, .ref yd, .ref yi, .int (iI (im)), .int (iI (ps + 1)), .int (iI (z_)), .int (iI (wd)), .int (iI (rl)), .int (iI (wa)), .int (iI (sn)), .int (iI (al))])), (yi, zI G 10 (N)), (yl, zI G 20 (uZ Lg p (lgS N rl wa))), (yg, zI G 20 (uZ Gp p (gpS sn wd ((lgS N rl wa) + q)))), (ya, zI G 20 (uZ Ar p (arS N rl (gpS sn wd ((lgS N rl wa) + q))))), (yh, zI G 20 (uZ Sh p (shS wa (arS N rl (gpS sn wd ((lgS N rl wa) + q))))))] 85 [(6, .int (iI (shS wa (arS N rl (gpS sn wd ((lgS N rl wa) + q)))))), (5, .int (iI (arS N rl (gpS sn wd ((lgS N rl wa) + q))))), (4, .int (iI (gpS sn wd ((lgS N rl wa) + q)))), (3, .int (iI (lgS N rl wa))), (0, .ref y), (1, .int (iI (p))), (2, .int (iI (q)))] [.int (iI (gpS sn wd ((lgS N rl wa) + q)))]) (show (fs + 1 : Int) = fs + (if al < shS wa (arS N rl (gpS sn wd (lgS N rl wa + q))) then 1 else 0) from by first | rfl | omega | (split <;> omega))).mpr ?_
    exact ex _ _ _ () _ dX0_layPair_85 rfl (congrArg iI (show (gpS sn wd ((lgS N rl wa) + q) : Int) = gpS sn wd (lgS N rl wa + q) from by first | rfl | omega | (clear ex hX; grind [uZ]))) rfl
