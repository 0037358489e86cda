/-! ===== pure: ranks, kerns, best settings, digests ===== -/
def rkQ (ff : Bool) (E F K : Int → Int) (n r : Int) : Int → Bool := fun k => prS F n k && decide (cnS (prS F n) (ahB ff (arA E F K n) (shA E F K n)) n k = r)
def rkV (ff : Bool) (E F K : Int → Int) (n r : Int) : Int := if fiS (rkQ ff E F K n r) n 0 < n then fiS (rkQ ff E F K n r) n 0 else -1
theorem rkQ_t {ff : Bool} {E F K : Int → Int} {n r k : Int} : rkQ ff E F K n r k = true ↔ prS F n k = true ∧ cnS (prS F n) (ahB ff (arA E F K n) (shA E F K n)) n k = r := by
  unfold rkQ
  rw [Bool.and_eq_true, decide_eq_true_iff]
theorem fiS_hit (b : Int → Bool) {len : Int} : ∀ (n : Nat) (i : Int), (len - i).toNat = n → i ≤ len → fiS b len i < len → b (fiS b len i) = true
  | 0, i, hn, hi, h => by rw [fiS_e b (by omega)] at h; omega
  | n + 1, i, hn, hi, h => by
    have e := fiS_s b (len := len) (i := i) (by omega)
    by_cases q : b i = true
    · rw [if_pos q] at e; rw [e]; exact q
    · rw [if_neg q] at e; rw [e] at h ⊢
      exact fiS_hit b n (i + 1) (by omega) (by omega) h
theorem fiS_first (b : Int → Bool) {len : Int} : ∀ (n : Nat) (i : Int), (len - i).toNat = n → i ≤ len → ∀ j : Int, i ≤ j → j < fiS b len i → ¬ b j = true
  | 0, i, hn, hi, j, h0, h1 => by rw [fiS_e b (by omega)] at h1; omega
  | n + 1, i, hn, hi, j, h0, h1 => by
    have e := fiS_s b (len := len) (i := i) (by omega)
    by_cases q : b i = true
    · rw [if_pos q] at e; omega
    · rw [if_neg q] at e; rw [e] at h1
      by_cases ej : j = i
      · rw [ej]; exact q
      · exact fiS_first b n (i + 1) (by omega) (by omega) j (by omega) h1
theorem fiS_only {b : Int → Bool} {len k : Int} (hk : 0 ≤ k ∧ k < len) (h : b k = true) (u : ∀ j : Int, 0 ≤ j → j < len → b j = true → j = k) : fiS b len 0 = k := by
  have r := fiS_r b (len := len) _ 0 rfl (by omega)
  have lt : fiS b len 0 < len := Int.not_le.mp fun w => fiS_no b _ 0 rfl (by omega) (show fiS b len 0 = len by omega) k hk.1 hk.2 h
  exact u _ r.1 lt (fiS_hit b _ 0 rfl (by omega) lt)
theorem rk_uni {ff : Bool} {Ar Sh : Int → Int} {pr : Int → Bool} {n x y : Int} (hx : 0 ≤ x ∧ x < n) (hy : 0 ≤ y ∧ y < n) (px : pr x = true) (py : pr y = true) (h : cnS pr (ahB ff Ar Sh) n x = cnS pr (ahB ff Ar Sh) n y) : x = y := by
  by_cases e : x = y
  · exact e
  · exfalso
    rcases ahB_tot (ff := ff) (Ar := Ar) (Sh := Sh) e with q | q
    · have := cnS_lt (pr := pr) (ah := ahB ff Ar Sh) (fun p => ahB_irr) (fun p q r => ahB_tr) hx px q
      omega
    · have := cnS_lt (pr := pr) (ah := ahB ff Ar Sh) (fun p => ahB_irr) (fun p q r => ahB_tr) hy py q
      omega
theorem rkV_in {ff : Bool} {E F K P : Int → Int} {n r : Int} (h : rkOk (prS F n) (ahB ff (arA E F K n) (shA E F K n)) n P) (h0 : 0 ≤ r) (h1 : r < psN F n) : P r = rkV ff E F K n r := by
  obtain ⟨a1, a2, a3⟩ := h r h0 (by rw [← psN_pc]; exact h1)
  have e := fiS_only (b := rkQ ff E F K n r) a1 (rkQ_t.mpr ⟨a2, a3⟩) (fun j j0 j1 q => by
    have w := rkQ_t.mp q
    exact rk_uni ⟨j0, j1⟩ a1 w.1 a2 (w.2.trans a3.symm))
  unfold rkV
  rw [e, if_pos a1.2]
theorem cnS_pl {ff : Bool} {Ar Sh : Int → Int} {pr : Int → Bool} {n x : Int} (hx : 0 ≤ x ∧ x < n) (px : pr x = true) : cnS pr (ahB ff Ar Sh) n x + 1 ≤ pcS pr n :=
  sumZ_lt (x := x) _ hx.1 (by omega) (by
    unfold cnF pcF
    rw [if_neg (fun q => ahB_irr q.2), if_pos px]; omega) (fun j _ _ => by
    unfold cnF pcF
    by_cases h1 : pr j = true ∧ ahB ff Ar Sh j x = true
    · rw [if_pos h1, if_pos h1.1]; omega
    · rw [if_neg h1]; split <;> omega)
theorem rkV_out {ff : Bool} {E F K : Int → Int} {n r : Int} (hn : 0 ≤ n) (h : r < 0 ∨ psN F n ≤ r) : rkV ff E F K n r = -1 := by
  have e : ¬ fiS (rkQ ff E F K n r) n 0 < n := fun w => by
    have q := rkQ_t.mp (fiS_hit _ _ 0 rfl hn w)
    have rg := fiS_r (rkQ ff E F K n r) (len := n) _ 0 rfl hn
    have c0 := cnS_0 (pr := prS F n) (ah := ahB ff (arA E F K n) (shA E F K n)) (i := n) (k := fiS (rkQ ff E F K n r) n 0)
    have c1 := cnS_pl (ff := ff) (Ar := arA E F K n) (Sh := shA E F K n) (pr := prS F n) ⟨rg.1, w⟩ q.1
    rw [← psN_pc] at c1
    omega
  unfold rkV
  rw [if_neg e]
theorem rkV_at {ff : Bool} {E F K P : Int → Int} {n r : Int} (hn : 0 ≤ n) (h : rkOk (prS F n) (ahB ff (arA E F K n) (shA E F K n)) n P) : (if 0 ≤ r ∧ r < psN F n then P r else -1) = rkV ff E F K n r := by
  by_cases e : 0 ≤ r ∧ r < psN F n
  · rw [if_pos e]; exact rkV_in h e.1 e.2
  · rw [if_neg e]; exact (rkV_out hn (by omega)).symm
theorem rkV_r {ff : Bool} {E F K : Int → Int} {n r : Int} (hn : 0 ≤ n) : -1 ≤ rkV ff E F K n r ∧ rkV ff E F K n r < n ∨ rkV ff E F K n r = -1 := by
  have rg := fiS_r (rkQ ff E F K n r) (len := n) _ 0 rfl hn
  unfold rkV
  split
  · omega
  · exact Or.inr rfl
theorem lnS_c {E F K P Q : Int → Int} {n bd sz w : Int} (h : ∀ r : Int, 0 ≤ r → r < psN F n → P r = Q r) : lnS E F K n bd sz P w = lnS E F K n bd sz Q w := by
  have e1 : mnS E F K n P = mnS E F K n Q := by
    unfold mnS
    split
    · rw [h 0 (by omega) (by omega)]
    · rfl
  have e2 : mxS E F K n P = mxS E F K n Q := by
    unfold mxS
    split
    · rw [h (psN F n - 1) (by omega) (by omega)]
    · rfl
  unfold lnS
  rw [e1, e2]
def lnV (E F K : Int → Int) (n bd sz w : Int) : Int := lnS E F K n bd sz (rkV false E F K n) w
theorem lnV_of {E F K P : Int → Int} {n bd sz w : Int} (h : rkOk (prS F n) (ahB false (arA E F K n) (shA E F K n)) n P) : lnS E F K n bd sz P w = lnV E F K n bd sz w := lnS_c (fun r r0 r1 => rkV_in h r0 r1)
theorem nkL_c {f g : Int → Int} (h : ∀ q : Int, f q = g q) (i : Nat) : nkL f i = nkL g i := by
  rw [show f = g from funext h]
def nkS (E F K : Int → Int) (n p : Int) : Int := if prS F n p = true then nkB (shW (inS E F n p) (E 1) (E 3) (E 4) (enA E F K n p) (lgP E F n p)) 6 + 10 else -1
theorem shW_c {N M : Int → Int} (rl wa sn e lg : Int) (h : ∀ q : Int, 0 ≤ q → q < 10 → N q = M q) : shW N rl wa sn e lg = shW M rl wa sn e lg := funext fun q => by
  unfold shW
  rw [arS_c _ _ h]
theorem nk_eq {E F K En Lg Gp : Int → Int} {n p : Int} (hE : okE E) (hK : okK K n) (g2 : ∀ j : Int, 0 ≤ j → j < n → En j = enA E F K n (j + 1)) (g3 : ∀ j : Int, 0 ≤ j → j < n → prS F n j = true → Lg j = lgP E F n j) (g4 : ∀ j : Int, 0 ≤ j → j < n → Gp j = gpA E F K n j) : (if (0 < p ∧ p < n) ∧ Gp p ≠ -1 then nkB (shW (jnZ (edZ (E 0)) (letA F n (p - 1)) (letA F n p)) (E 1) (E 3) (E 4) (En (p - 1)) (Lg p)) 6 + 10 else -1) = nkS E F K n p := by
  unfold nkS
  by_cases q : prS F n p = true
  · have a := prS_in q
    rw [if_pos ((pair_iff hE hK g4).mpr q), if_pos q, g2 (p - 1) (by omega) (by omega), g3 p (by omega) a.2 q, show p - 1 + 1 = p by omega, shW_c (M := inS E F n p) _ _ _ _ _ (fun z z0 z1 => by rw [jnZ_ed ⟨z0, z1⟩]; rfl)]
  · rw [if_neg (fun w => q ((pair_iff hE hK g4).mp w)), if_neg q]
def gaA (w : Int → Int) (bd : Int) : Nat → Int
  | 0 => -1
  | m + 1 => if w (10 * ((m : Int) + 1)) ≤ bd then 10 * ((m : Int) + 1) else gaA w bd m
theorem gaA_s (w : Int → Int) (bd : Int) {a : Int} (h : 1 ≤ a) : gaA w bd a.toNat = if w (10 * a) ≤ bd then 10 * a else gaA w bd (a - 1).toNat := by
  have e : a.toNat = (a - 1).toNat + 1 := by omega
  have e2 : (((a - 1).toNat : Int) + 1) = a := by omega
  rw [e]
  simp only [gaA, e2]
def wdS (E F K : Int → Int) (n s : Int) : Int → Int := fun v => enA (uZ E s v) F K n n
def ftS (E F K : Int → Int) (n s : Int) : Int → Int := fun v => fsN (uZ E s v) F K n
def gaS (E F K : Int → Int) (n bd : Int) : Int := gaA (wdS E F K n 3) bd 30
def bsL (f : Int → Int) : Nat → Int × Int
  | 0 => (1, f 1)
  | i + 1 => if f ((i : Int) + 2) ≤ (bsL f i).2 then ((i : Int) + 2, f ((i : Int) + 2)) else bsL f i
def bsB (f : Int → Int) (s : Int) : Int := (bsL f (s - 2).toNat).1
def bsM (f : Int → Int) (s : Int) : Int := (bsL f (s - 2).toNat).2
theorem bsB_s (f : Int → Int) {s : Int} (h : 2 ≤ s) : bsB f (s + 1) = if f s ≤ bsM f s then s else bsB f s := by
  have e : (s + 1 - 2).toNat = (s - 2).toNat + 1 := by omega
  have e2 : (((s - 2).toNat : Int) + 2) = s := by omega
  unfold bsB bsM
  rw [e]
  simp only [bsL, e2]
  split <;> rfl
theorem bsM_s (f : Int → Int) {s : Int} (h : 2 ≤ s) : bsM f (s + 1) = if f s ≤ bsM f s then f s else bsM f s := by
  have e : (s + 1 - 2).toNat = (s - 2).toNat + 1 := by omega
  have e2 : (((s - 2).toNat : Int) + 2) = s := by omega
  unfold bsM
  rw [e]
  simp only [bsL, e2]
  split <;> rfl
def bsS (E F K : Int → Int) (n : Int) : Int := bsB (ftS E F K n 4) 13
theorem ftS_r (E F K : Int → Int) {n s v : Int} (h : 0 ≤ n ∧ n ≤ 20) : 0 ≤ ftS E F K n s v ∧ ftS E F K n s v ≤ 20 := by
  have h1 := fsN_r (uZ E s v) F K h.1
  have h2 := psN_r (F := F) h.1
  unfold ftS
  omega
theorem bsB_r (f : Int → Int) {s : Int} (h : 2 ≤ s) : 1 ≤ bsB f s ∧ bsB f s < s := by
  have : ∀ i : Nat, 1 ≤ (bsL f i).1 ∧ (bsL f i).1 < (i : Int) + 2 := by
    intro i
    induction i with
    | zero => simp [bsL]
    | succ i ih =>
      simp only [bsL]
      split
      · dsimp only; omega
      · omega
  have := this (s - 2).toNat
  unfold bsB
  omega
theorem bsM_r (f : Int → Int) (hf : ∀ v : Int, 0 ≤ f v ∧ f v ≤ 20) {s : Int} (h : 2 ≤ s) : 0 ≤ bsM f s ∧ bsM f s ≤ 20 := by
  have : ∀ i : Nat, 0 ≤ (bsL f i).2 ∧ (bsL f i).2 ≤ 20 := by
    intro i
    induction i with
    | zero => exact hf 1
    | succ i ih =>
      simp only [bsL]
      split
      · exact hf _
      · exact ih
  exact this (s - 2).toNat
