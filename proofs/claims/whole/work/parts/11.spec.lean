/-! SPEC: land as a row of 47 ints; a year in it -/
abbrev zRw : Type := Nat → Int32
def zNF (r : zRw) : Nat := (r 0).toNatClampNeg
def zNP (r : zRw) : Nat := (r 1).toNatClampNeg
def zat (r : zRw) (p : Nat) : Int32 := r (26 + 4 * p)
def ztd (r : zRw) (p : Nat) : Int32 := r (25 + 4 * p)
def zkd (r : zRw) (p : Nat) : Nat := (r (23 + 4 * p)).toNatClampNeg
def zfg (r : zRw) (p : Nat) : Nat := (r (24 + 4 * p)).toNatClampNeg
def zsf (r : zRw) (p : Nat) : Nat := (zat r p).toNatClampNeg
/-- he sits somewhere and isn't worn -/
def zwk (r : zRw) (p : Nat) : Bool := decide (¬ zat r p < 0 ∧ ¬ nI 10 ≤ ztd r p)
def zgw (r : zRw) (p : Nat) : Int32 := if zwk r p = true then zgrw (zkd r p) (r (5 + 3 * zsf r p)) (r (5 + 3 * zsf r p + 1)) else nI 0
/-- farmer p's year: he tills, or rests -/
def zT (r : zRw) (p : Nat) : zRw := fun k => if zwk r p = true then (if k = 25 + 4 * p then zhd (r k + ztr (zkd r p)) (nI 20) else if 5 + 3 * zsf r p ≤ k ∧ k < 8 + 3 * zsf r p then zhd (r k + zgv (zkd r p) (zfg r p) (k - (5 + 3 * zsf r p))) (nI 30) else r k)
  else (if k = 25 + 4 * p then zhd (r k - nI 5) (nI 20) else r k)
def zTn (r : zRw) : Nat → zRw
  | 0 => r
  | i + 1 => zT (zTn r i) i
/-- what the first i grow -/
def zAl (r : zRw) : Nat → Int32
  | 0 => nI 0
  | i + 1 => zAl r i + zgw r i
def zfr (r : zRw) (f : Nat) : Bool := decide (∀ p, p < zNP r → zat r p ≠ nI f)
def zU (r : zRw) : zRw := fun k => if 5 ≤ k ∧ k < 5 + 3 * zNF r ∧ zfr r ((k - 5) / 3) = true then zhd (r k + nI 1) (nI 30) else r k
def zMv (r : zRw) : zRw := fun k => if 26 ≤ k ∧ k < 26 + 4 * zNP r ∧ (k - 26) % 4 = 0 ∧ ¬ r k < 0 then r k + r 2 - (r k + r 2) / r 0 * r 0 else r k
/-- a year that grows all of it -/
def zYw (r : zRw) (all : Int32) : zRw :=
  zMv (zU (upd (zTn (upd r 4 (r 4 + nI 1)) (zNP r)) 3 (zhd (r 3 + all) (nI 9999))))
def zYr (r : zRw) : zRw := zYw r (zAl r (zNP r))
/-- a row that is land -/
def zGd (r : zRw) (F P : Nat) : Prop := F ≤ 6 ∧ P ≤ 6 ∧ r 0 = nI F ∧ r 1 = nI P ∧ (∃ t, t ≤ 5 ∧ r 2 = nI t) ∧ (∃ t, t ≤ 9999 ∧ r 3 = nI t) ∧ (∀ k, k < 18 → ∃ h, h ≤ 30 ∧ r (5 + k) = nI h) ∧
  (∀ p, p < P → (∃ k, k < 6 ∧ r (23 + 4 * p) = nI k) ∧ (∃ g, g < 10 ∧ r (24 + 4 * p) = nI g) ∧ (∃ t, t ≤ 20 ∧ r (25 + 4 * p) = nI t) ∧ (r (26 + 4 * p) = -9 ∨ ∃ f, f < F ∧ r (26 + 4 * p) = nI f)) ∧
  (∀ p q, p < P → q < P → p ≠ q → r (26 + 4 * p) = r (26 + 4 * q) → r (26 + 4 * p) = -9) ∧ ∀ k, 47 ≤ k → r k = 0
section zGD
variable {r : zRw} {F P : Nat}
theorem zGd.F6 (h : zGd r F P) : F ≤ 6 := h.1
theorem zGd.P6 (h : zGd r F P) : P ≤ 6 := h.2.1
theorem zGd.r0 (h : zGd r F P) : r 0 = nI F := h.2.2.1
theorem zGd.r1 (h : zGd r F P) : r 1 = nI P := h.2.2.2.1
theorem zGd.nF (h : zGd r F P) : zNF r = F := by have := h.F6; rw [zNF, h.r0, nI_clamp (by omega)]
theorem zGd.nP (h : zGd r F P) : zNP r = P := by have := h.P6; rw [zNP, h.r1, nI_clamp (by omega)]
theorem zGd.r2 (h : zGd r F P) : ∃ t, t ≤ 5 ∧ r 2 = nI t := h.2.2.2.2.1
theorem zGd.r3 (h : zGd r F P) : ∃ t, t ≤ 9999 ∧ r 3 = nI t := h.2.2.2.2.2.1
theorem zGd.ht (h : zGd r F P) {k : Nat} (hk : k < 18) : ∃ t, t ≤ 30 ∧ r (5 + k) = nI t := h.2.2.2.2.2.2.1 k hk
theorem zGd.kd (h : zGd r F P) {p : Nat} (hp : p < P) : r (23 + 4 * p) = nI (zkd r p) ∧ zkd r p < 6 := by
  obtain ⟨k, h1, h2⟩ := (h.2.2.2.2.2.2.2.1 p hp).1
  have : zkd r p = k := by rw [zkd, h2, nI_clamp (by omega)]
  rw [this]; exact ⟨h2, h1⟩
theorem zGd.fg (h : zGd r F P) {p : Nat} (hp : p < P) : r (24 + 4 * p) = nI (zfg r p) ∧ zfg r p < 10 := by
  obtain ⟨k, h1, h2⟩ := (h.2.2.2.2.2.2.2.1 p hp).2.1
  have : zfg r p = k := by rw [zfg, h2, nI_clamp (by omega)]
  rw [this]; exact ⟨h2, h1⟩
theorem zGd.td (h : zGd r F P) {p : Nat} (hp : p < P) : ∃ t, t ≤ 20 ∧ r (25 + 4 * p) = nI t := (h.2.2.2.2.2.2.2.1 p hp).2.2.1
theorem zGd.at' (h : zGd r F P) {p : Nat} (hp : p < P) : r (26 + 4 * p) = -9 ∨ ∃ f, f < F ∧ r (26 + 4 * p) = nI f := (h.2.2.2.2.2.2.2.1 p hp).2.2.2
theorem zneg9 : (-9 : Int32) < 0 := by decide
theorem zGd.seat (h : zGd r F P) {p : Nat} (hp : p < P) : (zat r p = -9 ∧ zat r p < 0) ∨ (zat r p = nI (zsf r p) ∧ zsf r p < F ∧ ¬ zat r p < 0) := by
  have hF := h.F6
  rcases h.at' hp with e | ⟨f, h1, h2⟩
  · exact Or.inl ⟨e, by rw [zat, e]; exact zneg9⟩
  · have : zsf r p = f := by rw [zsf, zat, h2, nI_clamp (by omega)]
    rw [this]
    exact Or.inr ⟨h2, h1, by rw [zat, h2]; exact nI_pos (by omega)⟩
theorem zGd.inj (h : zGd r F P) {p q : Nat} (hp : p < P) (hq : q < P) (hne : p ≠ q) (h1 : ¬ zat r p < 0) (h2 : ¬ zat r q < 0) : zsf r p ≠ zsf r q := by
  intro e
  rcases h.seat hp with ⟨-, x⟩ | ⟨x, -, -⟩
  · exact h1 x
  · rcases h.seat hq with ⟨-, y⟩ | ⟨y, -, -⟩
    · exact h2 y
    · have e2 := h.2.2.2.2.2.2.2.2.1 p q hp hq hne (show zat r p = zat r q by rw [x, y, e])
      exact h1 (by rw [show zat r p = -9 from e2]; exact zneg9)
end zGD
theorem zwk_iff {r : zRw} {p : Nat} : zwk r p = true ↔ (¬ zat r p < 0 ∧ ¬ nI 10 ≤ ztd r p) := by simp [zwk]
theorem zfr_iff {r : zRw} {f : Nat} : zfr r f = true ↔ ∀ p, p < zNP r → zat r p ≠ nI f := by simp [zfr]
/-- T leaves what isn't his -/
theorem zT_o {r : zRw} {p k : Nat} (h1 : k ≠ 25 + 4 * p) (h2 : zwk r p = true → ¬ (5 + 3 * zsf r p ≤ k ∧ k < 8 + 3 * zsf r p)) : zT r p k = r k := by
  unfold zT
  by_cases hw : zwk r p = true
  · rw [if_pos hw, if_neg h1, if_neg (h2 hw)]
  · rw [if_neg hw, if_neg h1]
section zTN
variable {r : zRw} {F P : Nat}
theorem zTn_static (h : zGd r F P) {i : Nat} (hi : i ≤ P) : (∀ k, k < 5 ∨ 47 ≤ k → zTn r i k = r k) ∧ (∀ p w, w < 4 → (w = 2 → i ≤ p) → zTn r i (23 + w + 4 * p) = r (23 + w + 4 * p)) := by
  have hF := h.F6
  have hP := h.P6
  induction i with
  | zero => exact ⟨fun _ _ => rfl, fun _ _ _ _ => rfl⟩
  | succ i ih =>
    obtain ⟨a, b⟩ := ih (by omega)
    have hat : zat (zTn r i) i = zat r i := b i 3 (by omega) (by omega)
    have hsf : zsf (zTn r i) i = zsf r i := by rw [zsf, hat, zsf]
    have hw : zwk (zTn r i) i = true → zsf (zTn r i) i < 6 := by
      intro hw
      rw [hsf]
      have h1 := (zwk_iff.mp hw).1
      rw [hat] at h1
      rcases h.seat (show i < P by omega) with ⟨-, x⟩ | ⟨-, x, -⟩
      · exact absurd x h1
      · omega
    refine ⟨fun k hk => ?_, fun p w hw4 hpw => ?_⟩
    · show zT (zTn r i) i k = _
      rw [zT_o (by omega) (fun q => by have := hw q; omega)]
      exact a k hk
    · show zT (zTn r i) i _ = _
      rw [zT_o (by omega) (fun q => by have := hw q; omega)]
      exact b p w hw4 (by omega)
theorem zTn_at (h : zGd r F P) {i p : Nat} (hi : i ≤ P) : zat (zTn r i) p = zat r p := (zTn_static h hi).2 p 3 (by omega) (by omega)
theorem zTn_sf (h : zGd r F P) {i p : Nat} (hi : i ≤ P) : zsf (zTn r i) p = zsf r p := by rw [zsf, zTn_at h hi, zsf]
theorem zTn_kd (h : zGd r F P) {i p : Nat} (hi : i ≤ P) : zkd (zTn r i) p = zkd r p := by rw [zkd, zkd]; exact congrArg _ ((zTn_static h hi).2 p 0 (by omega) (by omega))
theorem zTn_fg (h : zGd r F P) {i p : Nat} (hi : i ≤ P) : zfg (zTn r i) p = zfg r p := by rw [zfg, zfg]; exact congrArg _ ((zTn_static h hi).2 p 1 (by omega) (by omega))
theorem zTn_td (h : zGd r F P) {i p : Nat} (hi : i ≤ P) (hp : i ≤ p) : ztd (zTn r i) p = ztd r p := (zTn_static h hi).2 p 2 (by omega) (by omega)
theorem zTn_wk (h : zGd r F P) {i p : Nat} (hi : i ≤ P) (hp : i ≤ p) : zwk (zTn r i) p = zwk r p := by rw [zwk, zwk, zTn_at h hi, zTn_td h hi hp]
/-- hearts of a farm that nobody ahead tills -/
theorem zTn_ht (h : zGd r F P) {i f s : Nat} (hi : i ≤ P) (hf : f < 6) (hs : s < 3) (hn : ∀ q, q < i → zwk r q = true → zsf r q ≠ f) : zTn r i (5 + 3 * f + s) = r (5 + 3 * f + s) := by
  have hP := h.P6
  induction i with
  | zero => rfl
  | succ i ih =>
    show zT (zTn r i) i _ = _
    rw [zT_o (by omega) (fun q => ?_)]
    · exact ih (by omega) (fun q hq => hn q (by omega))
    · rw [zTn_wk h (by omega) (by omega)] at q
      rw [zTn_sf h (by omega)]
      have := hn i (by omega) q
      omega
theorem zTn_gw (h : zGd r F P) {i : Nat} (hi : i < P) : zgw (zTn r i) i = zgw r i := by
  have hP := h.P6
  have hF := h.F6
  unfold zgw
  rw [zTn_wk h (by omega) (by omega)]
  by_cases hw : zwk r i = true
  · rw [if_pos hw, if_pos hw, zTn_kd h (by omega), zTn_sf h (by omega)]
    have h1 := (zwk_iff.mp hw).1
    have hsf : zsf r i < F := by
      rcases h.seat hi with ⟨-, x⟩ | ⟨-, x, -⟩
      · exact absurd x h1
      · exact x
    have hne : ∀ q, q < i → zwk r q = true → zsf r q ≠ zsf r i := fun q hq hwq => h.inj (by omega) hi (by omega) (zwk_iff.mp hwq).1 h1
    have e0 := zTn_ht h (i := i) (s := 0) (by omega) (show zsf r i < 6 by omega) (by omega) hne
    have e1 := zTn_ht h (i := i) (s := 1) (by omega) (show zsf r i < 6 by omega) (by omega) hne
    simp only [Nat.add_zero] at e0
    rw [e0, e1]
  · rw [if_neg hw, if_neg hw]
end zTN

theorem zT_kw {r : zRw} {p : Nat} (hw : zwk r p = true) (k : Nat) : zT r p k = if k = 25 + 4 * p then zhd (r k + ztr (zkd r p)) (nI 20) else if 5 + 3 * zsf r p ≤ k ∧ k < 8 + 3 * zsf r p then zhd (r k + zgv (zkd r p) (zfg r p) (k - (5 + 3 * zsf r p))) (nI 30) else r k := by
  unfold zT; rw [if_pos hw]
theorem zT_kn {r : zRw} {p : Nat} (hw : ¬ zwk r p = true) (k : Nat) : zT r p k = if k = 25 + 4 * p then zhd (r k - nI 5) (nI 20) else r k := by
  unfold zT; rw [if_neg hw]
/-! the free farms' year before or behind the farmers': the same -/
theorem zU_o {r : zRw} {k : Nat} (h : ¬ (5 ≤ k ∧ k < 5 + 3 * zNF r)) : zU r k = r k := by
  unfold zU
  rw [if_neg (fun q => h ⟨q.1, q.2.1⟩)]
theorem zU_static {r : zRw} {F P : Nat} (h : zGd r F P) {k : Nat} (hk : k < 5 ∨ 23 ≤ k) : zU r k = r k := by
  have := h.F6
  exact zU_o (by rw [h.nF]; omega)
theorem zU_T {r : zRw} {F P p : Nat} (hF : F ≤ 6) (hP : P ≤ 6) (hp : p < P) (h0 : r 0 = nI F) (h1 : r 1 = nI P) (hsf : zwk r p = true → zsf r p < F ∧ zat r p = nI (zsf r p)) : zU (zT r p) = zT (zU r) p := by
  have hnF : zNF r = F := by rw [zNF, h0, nI_clamp (by omega)]
  have hnP : zNP r = P := by rw [zNP, h1, nI_clamp (by omega)]
  have e : ∀ k, (k < 5 ∨ 23 ≤ k) → k ≠ 25 + 4 * p → zT r p k = r k := fun k hk hk2 => zT_o hk2 (fun q => by have := hsf q; omega)
  have eU : ∀ k, (k < 5 ∨ 23 ≤ k) → zU r k = r k := fun k hk => zU_o (by rw [hnF]; omega)
  have uF : zNF (zT r p) = F := by rw [zNF, e 0 (by omega) (by omega), h0, nI_clamp (by omega)]
  have uP : zNP (zT r p) = P := by rw [zNP, e 1 (by omega) (by omega), h1, nI_clamp (by omega)]
  have ufr : ∀ f, zfr (zT r p) f = zfr r f := by
    intro f
    rw [Bool.eq_iff_iff, zfr_iff, zfr_iff, uP, hnP]
    constructor
    · intro h q hq
      have := h q hq
      rwa [zat, e _ (by omega) (by omega)] at this
    · intro h q hq
      rw [zat, e _ (by omega) (by omega)]
      exact h q hq
  have wU : zwk (zU r) p = zwk r p := by rw [zwk, zwk, zat, ztd, eU _ (by omega), eU _ (by omega), zat, ztd]
  have sU : zsf (zU r) p = zsf r p := by rw [zsf, zat, eU _ (by omega), zsf, zat]
  have kU : zkd (zU r) p = zkd r p := by rw [zkd, eU _ (by omega), zkd]
  have gU : zfg (zU r) p = zfg r p := by rw [zfg, eU _ (by omega), zfg]
  funext k
  by_cases hw : zwk r p = true
  · obtain ⟨hs1, hs2⟩ := hsf hw
    rw [zT_kw (by rw [wU]; exact hw), sU, kU, gU]
    by_cases h25 : k = 25 + 4 * p
    · subst h25
      rw [if_pos rfl, zU_o (by rw [uF]; omega), zT_kw hw, if_pos rfl, eU _ (by omega)]
    · rw [if_neg h25]
      by_cases hh : 5 + 3 * zsf r p ≤ k ∧ k < 8 + 3 * zsf r p
      · have hf : (k - 5) / 3 = zsf r p := by omega
        have hno : zfr r ((k - 5) / 3) ≠ true := by
          rw [hf]
          intro q
          exact zfr_iff.mp q p (by rw [hnP]; exact hp) hs2
        rw [if_pos hh]
        have a1 : zU r k = r k := by unfold zU; rw [if_neg (fun q => hno q.2.2)]
        rw [a1]
        unfold zU
        rw [if_neg (fun q => hno (by rw [← ufr]; exact q.2.2)), zT_kw hw, if_neg h25, if_pos hh]
      · rw [if_neg hh]
        have a1 : zT r p k = r k := by rw [zT_kw hw, if_neg h25, if_neg hh]
        unfold zU
        rw [uF, hnF, ufr, a1]
  · rw [zT_kn (by rw [wU]; exact hw)]
    by_cases h25 : k = 25 + 4 * p
    · subst h25
      rw [if_pos rfl, zU_o (by rw [uF]; omega), zT_kn hw, if_pos rfl, eU _ (by omega)]
    · rw [if_neg h25]
      have a1 : zT r p k = r k := by rw [zT_kn hw, if_neg h25]
      unfold zU
      rw [uF, hnF, ufr, a1]
theorem zU_Tn {r : zRw} {F P : Nat} (h : zGd r F P) {i : Nat} (hi : i ≤ P) : zU (zTn r i) = zTn (zU r) i := by
  induction i with
  | zero => rfl
  | succ i ih =>
    have hs := zTn_static h (i := i) (by omega)
    show zU (zT (zTn r i) i) = zT (zTn (zU r) i) i
    rw [← ih (by omega)]
    refine zU_T h.F6 h.P6 (p := i) (by omega) ((hs.1 0 (by omega)).trans h.r0) ((hs.1 1 (by omega)).trans h.r1) (fun hw => ?_)
    rw [zTn_wk h (by omega) (by omega)] at hw
    rw [zTn_sf h (by omega), zTn_at h (by omega)]
    rcases h.seat (show i < P by omega) with ⟨-, x⟩ | ⟨x, y, -⟩
    · exact absurd x (zwk_iff.mp hw).1
    · exact ⟨y, x⟩
/-! numbers: at least 0, at most m, of small ones -/
theorem zhd_n {a m : Nat} (ha : a < 2 ^ 31) (hm : m < 2 ^ 31) : zhd (nI a) (nI m) = nI (if m < a then m else a) := by
  unfold zhd
  rw [if_neg (nI_pos ha)]
  by_cases q : m < a
  · rw [if_pos (nI_lt q ha), if_pos q]
  · rw [if_neg (nI_nlt (by omega) hm), if_neg q]
theorem zhd_b {v : Int32} {m : Nat} (hm : m < 2 ^ 31) : ∃ t, t ≤ m ∧ zhd v (nI m) = nI t := by
  unfold zhd
  by_cases h0 : v < 0
  · rw [if_pos h0]; exact ⟨0, by omega, rfl⟩
  · rw [if_neg h0]
    obtain ⟨j, hj, rfl⟩ := nI_of h0
    by_cases q : m < j
    · rw [if_pos (nI_lt q hj)]; exact ⟨m, Nat.le_refl _, rfl⟩
    · rw [if_neg (nI_nlt (by omega) hm)]; exact ⟨j, by omega, rfl⟩
