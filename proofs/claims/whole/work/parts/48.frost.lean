/-! FROST, MEAN: both -/
theorem zw_eqV {pc : Nat} {X : zCx} {lv : List (Option Value)} {st : List Value} {σ : zSt} {x y : Value} (h : x = y) (k : zW X pc lv (y :: st) σ) : zW X pc lv (x :: st) σ := by rw [h]; exact k
theorem lNt {a : Nat} (h : a < 2 ^ 63) : (lN a).toInt = (a : Int) := Int64.toInt_ofNat_of_lt h
theorem lNi {a b : Nat} (ha : a < 2 ^ 63) (hb : b < 2 ^ 63) : lN a = lN b ↔ a = b := by
  constructor
  · intro h
    have h2 := congrArg Int64.toInt h
    rw [lNt ha, lNt hb] at h2
    omega
  · exact fun h => by rw [h]
theorem lNl {a b : Nat} (ha : a < 2 ^ 63) (hb : b < 2 ^ 63) : lN a < lN b ↔ a < b := by
  rw [Int64.lt_iff_toInt_lt, lNt ha, lNt hb]
  omega
theorem lcm0 {a : Nat} (h : a < 2 ^ 63) : lg_cmp (lN a) (lN 0) = 0 ↔ a = 0 := by
  rw [lg_cmp_eq, lNi h (by omega)]
/-- so many steps of the division end it -/
def zeu : Nat → Nat → Nat → Prop
  | 0, _, y => y = 0
  | j + 1, x, y => y = 0 ∨ zeu j y (x % y)
theorem zeu_of : ∀ k x y, y < 2 ^ k → zeu (2 * k + 1) x y := by
  intro k
  induction k with
  | zero => intro x y h; exact Or.inl (by omega)
  | succ k ih =>
    intro x y h
    by_cases h0 : y = 0
    · exact Or.inl h0
    · refine Or.inr ?_
      show zeu (2 * k + 1 + 1) y (x % y)
      by_cases h1 : x % y = 0
      · exact Or.inl h1
      · refine Or.inr (ih _ _ ?_)
        have a1 : x % y < y := Nat.mod_lt _ (by omega)
        have a2 : y % (x % y) < x % y := Nat.mod_lt _ (by omega)
        have a3 : y % (x % y) + x % y ≤ y := by
          have e := Nat.div_add_mod y (x % y)
          have hd : 1 ≤ y / (x % y) := Nat.div_pos (Nat.le_of_lt a1) (by omega)
          have hm : x % y * 1 ≤ x % y * (y / (x % y)) := Nat.mul_le_mul_left _ hd
          omega
        have a4 : 2 ^ (k + 1) = 2 * 2 ^ k := by rw [Nat.pow_succ, Nat.mul_comm]
        omega
def zpart (a b : Nat) (part : Int32) : Int64 := lN ((if part = nI 0 then a else b) / Nat.gcd a b)
/-! what comes of a set of mild years -/
def zfc (g : Nat → Int32) (b : Nat → Bool) : Nat → Int32
  | 0 => nI 0
  | i + 1 => if b i = true then zfc g b i + g i else zfc g b i
def zfw (t : Nat) (b : Nat → Bool) : Nat → Nat
  | 0 => 1
  | i + 1 => if b i = true then zfw t b i * (t - 1) else zfw t b i
def zfG (g : Nat → Int32) (n t : Nat) (v : Int32) (b : Nat → Bool) : Nat := if zfc g b n < v then 0 else zfw t b n
def zfS (f : Nat → Nat) : Nat → Nat
  | 0 => 0
  | i + 1 => zfS f i + f i
theorem zfc_congr {g : Nat → Int32} {b c : Nat → Bool} : ∀ n, (∀ i, i < n → b i = c i) → zfc g b n = zfc g c n := by
  intro n
  induction n with
  | zero => intro _; rfl
  | succ n ih =>
    intro h
    unfold zfc
    rw [ih (fun i hi => h i (by omega)), h n (by omega)]
theorem zfw_congr {t : Nat} {b c : Nat → Bool} : ∀ n, (∀ i, i < n → b i = c i) → zfw t b n = zfw t c n := by
  intro n
  induction n with
  | zero => intro _; rfl
  | succ n ih =>
    intro h
    unfold zfw
    rw [ih (fun i hi => h i (by omega)), h n (by omega)]
theorem zfG_congr {g : Nat → Int32} {n t : Nat} {v : Int32} {b c : Nat → Bool} (h : ∀ i, i < n → b i = c i) : zfG g n t v b = zfG g n t v c := by
  unfold zfG
  rw [zfc_congr n h, zfw_congr n h]
theorem zfS_add (f : Nat → Nat) : ∀ a b, zfS f (a + b) = zfS f a + zfS (fun i => f (a + i)) b := by
  intro a b
  induction b with
  | zero => rfl
  | succ b ih =>
    show zfS f (a + b) + f (a + b) = _
    rw [ih]
    show _ = zfS f a + (zfS (fun i => f (a + i)) b + f (a + b))
    omega
theorem zfS_congr {f g : Nat → Nat} : ∀ n, (∀ i, i < n → f i = g i) → zfS f n = zfS g n := by
  intro n
  induction n with
  | zero => intro _; rfl
  | succ n ih =>
    intro h
    unfold zfS
    rw [ih (fun i hi => h i (by omega)), h n (by omega)]
theorem zfS_rev (f : Nat → Nat) : ∀ n, zfS f n = zfS (fun i => f (n - 1 - i)) n := by
  intro n
  induction n with
  | zero => rfl
  | succ n ih =>
    show zfS f n + f n = _
    rw [show n + 1 = 1 + n by omega, zfS_add]
    show _ = (0 + f (1 + n - 1 - 0)) + zfS (fun i => f (1 + n - 1 - (1 + i))) n
    rw [ih, show 1 + n - 1 - 0 = n by omega, zfS_congr (f := fun i => f (n - 1 - i)) (g := fun i => f (1 + n - 1 - (1 + i))) n (fun i hi => by show f _ = f _; congr 1; omega)]
    omega
theorem zfS_not (g : Nat → Int32) (n t : Nat) (v : Int32) : zfS (fun m => zfG g n t v (fun i => !m.testBit i)) (2 ^ n) = zfS (fun m => zfG g n t v (fun i => m.testBit i)) (2 ^ n) := by
  rw [zfS_rev (fun m => zfG g n t v (fun i => m.testBit i))]
  refine zfS_congr _ (fun m hm => ?_)
  refine zfG_congr (fun i hi => ?_)
  have e : 2 ^ n - 1 - m = 2 ^ n - (m + 1) := by omega
  show (!m.testBit i) = (2 ^ n - 1 - m).testBit i
  rw [e, Nat.testBit_two_pow_sub_succ hm]
  simp [hi]
theorem zfw_le {t : Nat} (ht : 1 ≤ t) (b : Nat → Bool) : ∀ n, zfw t b n ≤ t ^ n := by
  intro n
  induction n with
  | zero => exact Nat.le_refl _
  | succ n ih =>
    unfold zfw
    rw [Nat.pow_succ]
    split
    · exact Nat.mul_le_mul ih (Nat.sub_le _ _)
    · exact Nat.le_trans ih (Nat.le_mul_of_pos_right _ ht)
theorem zpow_b {n t : Nat} (hn : n ≤ 7) (ht : t ≤ 20) (h1 : 1 ≤ t) : 1 ≤ t ^ n ∧ t ^ n ≤ 1280000000 := by
  refine ⟨Nat.one_le_pow _ _ h1, ?_⟩
  have a1 : t ^ n ≤ 20 ^ n := Nat.pow_le_pow_left ht n
  have a2 : 20 ^ n ≤ 20 ^ 7 := Nat.pow_le_pow_right (by omega) hn
  have a3 : 20 ^ 7 = 1280000000 := by decide
  omega
theorem zfS_le {f : Nat → Nat} {B : Nat} (h : ∀ i, f i ≤ B) : ∀ n, zfS f n ≤ n * B := by
  intro n
  induction n with
  | zero => exact Nat.zero_le _
  | succ n ih =>
    unfold zfS
    rw [Nat.add_mul, Nat.one_mul]
    exact Nat.add_le_add ih (h n)
theorem zfG_le {g : Nat → Int32} {n t : Nat} {v : Int32} {b : Nat → Bool} (hn : n ≤ 7) (ht : t ≤ 20) (h1 : 1 ≤ t) : zfG g n t v b ≤ 1280000000 := by
  unfold zfG
  split
  · omega
  · exact Nat.le_trans (zfw_le h1 b n) (zpow_b hn ht h1).2
theorem zmx1 : ∀ F, F < 7 → (if nI 1 < nI F then nI F else nI 1) = nI (if F = 0 then 1 else F) := by decide +kernel
theorem z2n : ∀ n, n ≤ 7 → nI 1 <<< (nI n &&& 31) = nI (2 ^ n) := by decide +kernel
theorem zbit : ∀ m, m < 128 → ∀ i, i < 7 → (nI m &&& (nI 1 <<< (nI i &&& 31)) = 0 ↔ m.testBit i = false) := by decide +kernel
theorem zhas : ∀ m, m < 128 → ∀ i, i < 7 → (nI m >>> (nI i &&& 31)) &&& nI 1 = nI (if m.testBit i = true then 1 else 0) := by decide +kernel
theorem z2n_le : ∀ n, n ≤ 7 → 2 ^ n ≤ 128 := by decide
theorem zsum_n {g : Nat → Int32} {B : Nat} : ∀ n, (∀ i, i < n → ∃ b, b ≤ B ∧ g i = nI b) → ∃ b, b ≤ B * n ∧ zsum g n = nI b := by
  intro n
  induction n with
  | zero => intro _; exact ⟨0, by omega, rfl⟩
  | succ n ih =>
    intro h
    obtain ⟨a, ha, ea⟩ := ih (fun i hi => h i (by omega))
    obtain ⟨b, hb, eb⟩ := h n (by omega)
    exact ⟨a + b, by rw [Nat.mul_add]; omega, by rw [zsum, ea, eb, nI_add]⟩
/-! rows that differ in the barn alone -/
def zE3 (a b : zRw) : Prop := ∀ q, q ≠ 3 → a q = b q
theorem zE3.T {a b : zRw} (h : zE3 a b) (p : Nat) : zE3 (zT a p) (zT b p) := by
  intro k hk
  have e1 : zwk a p = zwk b p := by rw [zwk, zwk, zat, zat, ztd, ztd, h _ (by omega), h _ (by omega)]
  have e2 : zsf a p = zsf b p := by rw [zsf, zsf, zat, zat, h _ (by omega)]
  have e3 : zkd a p = zkd b p := by rw [zkd, zkd, h _ (by omega)]
  have e4 : zfg a p = zfg b p := by rw [zfg, zfg, h _ (by omega)]
  unfold zT
  rw [e1, e2, e3, e4, h k hk]
theorem zE3.Tn {a b : zRw} (h : zE3 a b) : ∀ i, zE3 (zTn a i) (zTn b i) := by
  intro i
  induction i with
  | zero => exact h
  | succ i ih => exact ih.T i
theorem zE3.U {a b : zRw} (h : zE3 a b) : zE3 (zU a) (zU b) := by
  intro k hk
  have e1 : zNF a = zNF b := by rw [zNF, zNF, h _ (by omega)]
  have e2 : ∀ f, zfr a f = zfr b f := fun f => zfr_congr (h 1 (by omega)) (fun p => h _ (by omega))
  unfold zU
  rw [e1, e2, h k hk]
theorem zE3.Mv {a b : zRw} (h : zE3 a b) : zE3 (zMv a) (zMv b) := by
  intro k hk
  have e1 : zNP a = zNP b := by rw [zNP, zNP, h _ (by omega)]
  unfold zMv
  rw [e1, h 0 (by omega), h 2 (by omega), h k hk]
theorem zE3.u3 {a b : zRw} (h : zE3 a b) (x y : Int32) : zE3 (upd a 3 x) (upd b 3 y) := fun k hk => by rw [zupd_o hk, zupd_o hk]; exact h k hk
theorem zE3.Yw {a b : zRw} (h : zE3 a b) (x y : Int32) : zE3 (zYw a x) (zYw b y) := by
  have e1 : zNP a = zNP b := by rw [zNP, zNP, h _ (by omega)]
  have h4 : zE3 (upd a 4 (a 4 + nI 1)) (upd b 4 (b 4 + nI 1)) := by
    intro k hk
    by_cases e : k = 4
    · subst e; rw [zupd_s, zupd_s, h 4 hk]
    · rw [zupd_o e, zupd_o e]; exact h k hk
  unfold zYw
  rw [e1]
  exact (((h4.Tn (zNP b)).u3 _ _).U).Mv
theorem zE3.Al {a b : zRw} (h : zE3 a b) (i : Nat) : zAl a i = zAl b i := zAl_congr (fun p _ => zgw_congr (fun k hk => h k (by omega)))
/-! calls that answer a long -/
def zqL (S : zS) (e : Int32) (a : Value × zS) : Value × zS := if e = 0 then a else (.long (4000000000000000000 - e.toInt64), zNo S e)
theorem zqL_t {S : zS} {e : Int32} {a : Value × zS} (h : e = 0) : zqL S e a = a := if_pos h
theorem zqL_f {S : zS} {e : Int32} {a : Value × zS} (h : ¬ e = 0) : zqL S e a = (.long (4000000000000000000 - e.toInt64), zNo S e) := if_neg h
theorem zCQ.noL {S : zS} {σ : zSt} {e : Int32} {k : Nat} {a : Value × zS} (h : zCW S σ) (he : ¬ e = 0) (hk : k < 7) (hc : -e = nI k) : zCQ (zqL S e a) σ (some (.long (4000000000000000000 - e.toInt64))) (zRf σ 49 k) := by
  rw [zqL_f he]
  exact ⟨rfl, h.no hk hc, fun c hc2 => zC_n (by omega)⟩
theorem zRQ.noL {S : zS} {σ : zSt} {e : Int32} {k : Nat} {a : Value × zS} (h : zRW S σ) (he : ¬ e = 0) (hk : k < 7) (hc : -e = nI k) : zRQ (zqL S e a) σ (some (.long (4000000000000000000 - e.toInt64))) (zRf σ 59 k) := by
  rw [zqL_f he]
  exact ⟨rfl, h.no hk hc, fun c hc2 => zC_n (by omega)⟩
def zgy (r : zRw) (P : Nat) (i : Nat) : Int32 := zAl (zYs r i) P
def zfR (r : zRw) (P n t : Nat) (v : Int32) : Nat := zfS (fun m => zfG (zgy r P) n t v (fun i => m.testBit i)) (2 ^ n)
def w_frost (n t v w : Int32) : Int32 := if n < 0 ∨ v < 0 ∨ t < nI 2 then -4 else if nI 7 < n ∨ nI 20 < t ∨ nI 999 < v then -6 else zou w (nI 1)
def q_frost (S : zS) (n t v w : Int32) : Value × zS := zqL S (w_frost n t v w) (.long (zpart (zfR S.1 (zNP S.1) n.toNatClampNeg t.toNatClampNeg v) (t.toNatClampNeg ^ n.toNatClampNeg) w), S)
def q_mean (S : zS) (w : Int32) : Value × zS := zqL S (zou w (nI 1)) (.long (zpart (zsum (zgn S.1) (zNF S.1)).toNatClampNeg (if zNF S.1 = 0 then 1 else zNF S.1) w), S)
theorem zcd_frost {n t v w : Int32} : zcd (w_frost n t v w) := by
  unfold w_frost
  split
  · exact Or.inr ⟨4, by omega, by decide⟩
  · split
    · exact Or.inr ⟨6, by omega, by decide⟩
    · exact zcd_ou
theorem w_frost_0 {n t v w : Int32} (h : w_frost n t v w = 0) : ∃ a b, a ≤ 7 ∧ n = nI a ∧ 2 ≤ b ∧ b ≤ 20 ∧ t = nI b ∧ zou w (nI 1) = 0 := by
  unfold w_frost at h
  by_cases c1 : n < 0 ∨ v < 0 ∨ t < nI 2
  · rw [if_pos c1] at h; exact absurd h (by decide)
  · rw [if_neg c1] at h
    by_cases c2 : nI 7 < n ∨ nI 20 < t ∨ nI 999 < v
    · rw [if_pos c2] at h; exact absurd h (by decide)
    · rw [if_neg c2] at h
      obtain ⟨a, ha, rfl⟩ := nI_of (fun z => c1 (Or.inl z))
      have t0 : ¬ t < 0 := fun z => c1 (Or.inr (Or.inr (Int32.lt_of_lt_of_le z (show (0 : Int32) ≤ nI 2 by decide))))
      obtain ⟨b, hb, rfl⟩ := nI_of t0
      refine ⟨a, b, ?_, rfl, ?_, ?_, rfl, h⟩
      · exact Nat.le_of_not_lt fun z => c2 (Or.inl (nI_lt z ha))
      · exact Nat.le_of_not_lt fun z => c1 (Or.inr (Or.inr (nI_lt z (by omega))))
      · exact Nat.le_of_not_lt fun z => c2 (Or.inr (Or.inl (nI_lt z hb)))

theorem s_X5_termOf {n : Nat} {σ : zSt}  {a b : Nat} (ha : a < 2 ^ 62) (hb0 : 0 < b) (hb : b < 2 ^ 31) (w : Int32) : zSem (n + 1) mX5_termOf [.long (lN a), .long (lN b), .int w] σ (zP σ (.long (zpart a b w))) := by
  refine zSem.of (by decide +kernel) (Nat.le_of_ble_eq_true rfl) (fun X hB hR => ?_)
  show zW X 0 [some (.long (lN a)), none, some (.long (lN b)), none, some (.int w), none, none, none, none, none, none, none] [] σ
  have gp : 0 < Nat.gcd a b := Nat.gcd_pos_of_pos_right _ hb0
  have gl : Nat.gcd a b ≤ b := Nat.gcd_le_right _ hb0
  have hl : ∀ j x y i, zeu j x y → i + j ≤ 99 → Nat.gcd x y = Nat.gcd a b → x < 2 ^ 62 → y < 2 ^ 62 → ∀ a10 a11 : Option Value, zW X 9 [some (.long (lN a)), none, some (.long (lN b)), none, some (.int w), some (.long (lN x)), none, some (.long (lN y)), none, some (.int (nI i)), a10, a11] [] σ := by
    intro j
    induction j with
    | zero =>
      intro x y i hj hij hg hx hy a10 a11
      have hj : y = 0 := hj
      refine zw_iload9 hB dX5_termOf_9 ?_
      refine zw_bipush (x := nI 100) hB dX5_termOf_11 (by decide) ?_
      refine zw_icmp_geN (tgt := 44) hB dX5_termOf_13 (by decide) (by omega) (by omega) (fun c13 => by first | exact absurd c13 (by omega) | exact absurd (by omega) c13 | omega) (fun c13 => ?_)
      refine zw_lload7 hB dX5_termOf_16 ?_
      refine zw_lconst (x := lN 0) hB dX5_termOf_18 (by decide) ?_
      refine zw_lcmp hB dX5_termOf_19 ?_
      refine zw_if_eq (tgt := 44) hB dX5_termOf_20 (by decide) (fun c20 => ?_) (fun c20 => by first | exact absurd ((lcm0 (by omega)).mpr hj) c20 | exact absurd c20 ((lcm0 (by omega)).mpr hj) | omega)
      have y0 : y = 0 := hj
      have xg : x = Nat.gcd a b := by rw [← hg, y0, Nat.gcd_zero_right]
      refine zw_lconst (x := lN 1) hB dX5_termOf_44 (by decide) ?_
      refine zw_lload5 hB dX5_termOf_45 ?_
      refine zw_maxl hB dX5_termOf_47 zl_X5_281 (by first | exact Nat.le_of_ble_eq_true rfl | decide) ?_
      refine zw_eqV (y := .long (lN (Nat.gcd a b))) (by rw [if_neg (by rw [lNl (by omega) (by omega)]; omega), show x = Nat.gcd a b by rw [← hg, y0, Nat.gcd_zero_right]]) ?_
      refine zw_lstore9 hB dX5_termOf_50 (by first | rfl | assumption) ?_
      refine zw_iload4 hB dX5_termOf_52 ?_
      refine zw_if_ne (tgt := 61) hB dX5_termOf_54 (by decide) (fun c54 => ?_) (fun c54 => ?_)
      · refine zw_lload2 hB dX5_termOf_61 ?_
        refine zw_lload9 hB dX5_termOf_62 ?_
        refine zw_ldiv hB dX5_termOf_64 (fun z => absurd ((lNi (b := 0) (by omega) (by omega)).mp z) (by omega)) ?_
        refine zw_lret hB hR dX5_termOf_65 rfl ?_
        exact ⟨by unfold zpart; rw [if_neg (show ¬ w = nI 0 from c54), pk_lDiv (by omega) gp (by omega)], rfl⟩
      · refine zw_lload0 hB dX5_termOf_57 ?_
        refine zw_goto (tgt := 62) hB dX5_termOf_58 (by decide) ?_
        refine zw_lload9 hB dX5_termOf_62 ?_
        refine zw_ldiv hB dX5_termOf_64 (fun z => absurd ((lNi (b := 0) (by omega) (by omega)).mp z) (by omega)) ?_
        refine zw_lret hB hR dX5_termOf_65 rfl ?_
        exact ⟨by unfold zpart; rw [if_pos (show w = nI 0 from c54), pk_lDiv (by omega) gp (by omega)], rfl⟩
    | succ j ih =>
      intro x y i hj hij hg hx hy a10 a11
      refine zw_iload9 hB dX5_termOf_9 ?_
      refine zw_bipush (x := nI 100) hB dX5_termOf_11 (by decide) ?_
      refine zw_icmp_geN (tgt := 44) hB dX5_termOf_13 (by decide) (by omega) (by omega) (fun c13 => by first | exact absurd c13 (by omega) | exact absurd (by omega) c13 | omega) (fun c13 => ?_)
      refine zw_lload7 hB dX5_termOf_16 ?_
      refine zw_lconst (x := lN 0) hB dX5_termOf_18 (by decide) ?_
      refine zw_lcmp hB dX5_termOf_19 ?_
      refine zw_if_eq (tgt := 44) hB dX5_termOf_20 (by decide) (fun c20 => ?_) (fun c20 => ?_)
      · have y0 : y = 0 := (lcm0 (by omega)).mp c20
        have xg : x = Nat.gcd a b := by rw [← hg, y0, Nat.gcd_zero_right]
        refine zw_lconst (x := lN 1) hB dX5_termOf_44 (by decide) ?_
        refine zw_lload5 hB dX5_termOf_45 ?_
        refine zw_maxl hB dX5_termOf_47 zl_X5_281 (by first | exact Nat.le_of_ble_eq_true rfl | decide) ?_
        refine zw_eqV (y := .long (lN (Nat.gcd a b))) (by rw [if_neg (by rw [lNl (by omega) (by omega)]; omega), show x = Nat.gcd a b by rw [← hg, y0, Nat.gcd_zero_right]]) ?_
        refine zw_lstore9 hB dX5_termOf_50 (by first | rfl | assumption) ?_
        refine zw_iload4 hB dX5_termOf_52 ?_
        refine zw_if_ne (tgt := 61) hB dX5_termOf_54 (by decide) (fun c54 => ?_) (fun c54 => ?_)
        · refine zw_lload2 hB dX5_termOf_61 ?_
          refine zw_lload9 hB dX5_termOf_62 ?_
          refine zw_ldiv hB dX5_termOf_64 (fun z => absurd ((lNi (b := 0) (by omega) (by omega)).mp z) (by omega)) ?_
          refine zw_lret hB hR dX5_termOf_65 rfl ?_
          exact ⟨by unfold zpart; rw [if_neg (show ¬ w = nI 0 from c54), pk_lDiv (by omega) gp (by omega)], rfl⟩
        · refine zw_lload0 hB dX5_termOf_57 ?_
          refine zw_goto (tgt := 62) hB dX5_termOf_58 (by decide) ?_
          refine zw_lload9 hB dX5_termOf_62 ?_
          refine zw_ldiv hB dX5_termOf_64 (fun z => absurd ((lNi (b := 0) (by omega) (by omega)).mp z) (by omega)) ?_
          refine zw_lret hB hR dX5_termOf_65 rfl ?_
          exact ⟨by unfold zpart; rw [if_pos (show w = nI 0 from c54), pk_lDiv (by omega) gp (by omega)], rfl⟩
      · refine zw_lload5 hB dX5_termOf_23 ?_
        refine zw_lload7 hB dX5_termOf_25 ?_
        refine zw_lrem hB dX5_termOf_27 (fun z => c20 ((lcm0 (by omega)).mpr ((lNi (by omega) (by omega)).mp z))) ?_
        have yp : 0 < y := Nat.pos_of_ne_zero (fun z => c20 ((lcm0 (by omega)).mpr z))
        refine zw_eqV (y := .long (lN (x % y))) (by rw [pk_lRem (by omega) yp (by omega)]) ?_
        refine zw_lstore10 hB dX5_termOf_28 (by first | rfl | assumption) ?_
        refine zw_lload7 hB dX5_termOf_30 ?_
        refine zw_lstore5 hB dX5_termOf_32 (by first | rfl | assumption) ?_
        refine zw_lload10 hB dX5_termOf_34 ?_
        refine zw_lstore7 hB dX5_termOf_36 (by first | rfl | assumption) ?_
        refine zw_iinc9 hB dX5_termOf_38 (by first | exact zinc _ | rfl) (by first | rfl | assumption) ?_
        refine zw_goto (tgt := 9) hB dX5_termOf_41 (by decide) ?_
        refine ih _ _ _ (Or.resolve_left hj (fun z => c20 ((lcm0 (by omega)).mpr z))) (by omega) ?_ hy (by have := Nat.mod_lt x yp; omega) _ _
        rw [← hg, Nat.gcd_comm y, ← Nat.gcd_rec, Nat.gcd_comm]
  refine zw_lload0 hB dX5_termOf_0 ?_
  refine zw_lstore5 hB dX5_termOf_1 (by first | rfl | assumption) ?_
  refine zw_lload2 hB dX5_termOf_3 ?_
  refine zw_lstore7 hB dX5_termOf_4 (by first | rfl | assumption) ?_
  refine zw_iconst (x := nI 0) hB dX5_termOf_6 (by decide) ?_
  refine zw_istore9 hB dX5_termOf_7 (by first | rfl | assumption) ?_
  exact hl 63 a b 0 (zeu_of 31 a b hb) (by omega) rfl ha (by omega) _ _
theorem s_X6_gcd {n : Nat} {σ : zSt}  {a b : Nat} (ha : a < 2 ^ 62) (hb : b < 2 ^ 31) : zSem n mX6_gcd [.long (lN a), .long (lN b)] σ (zP σ (.long (lN (Nat.gcd a b)))) := by
  refine zSem.of (by decide +kernel) (Nat.le_of_ble_eq_true rfl) (fun X hB hR => ?_)
  show zW X 0 [some (.long (lN a)), none, some (.long (lN b)), none, none, none, none, none, none, none] [] σ
  have hl : ∀ j x y, zeu j x y → Nat.gcd x y = Nat.gcd a b → x < 2 ^ 62 → y < 2 ^ 62 → ∀ a8 a9 : Option Value, zW X 6 [some (.long (lN a)), none, some (.long (lN b)), none, some (.long (lN x)), none, some (.long (lN y)), none, a8, a9] [] σ := by
    intro j
    induction j with
    | zero =>
      intro x y hj hg hx hy a8 a9
      have hj : y = 0 := hj
      refine zw_lload6 hB dX6_gcd_6 ?_
      refine zw_lconst (x := lN 0) hB dX6_gcd_8 (by decide) ?_
      refine zw_lcmp hB dX6_gcd_9 ?_
      refine zw_if_eq (tgt := 31) hB dX6_gcd_10 (by decide) (fun c10 => ?_) (fun c10 => by first | exact absurd ((lcm0 (by omega)).mpr hj) c10 | exact absurd c10 ((lcm0 (by omega)).mpr hj) | omega)
      have y0 : y = 0 := hj
      have xg : x = Nat.gcd a b := by rw [← hg, y0, Nat.gcd_zero_right]
      refine zw_lload4 hB dX6_gcd_31 ?_
      refine zw_lret hB hR dX6_gcd_33 rfl ?_
      exact ⟨by rw [xg], rfl⟩
    | succ j ih =>
      intro x y hj hg hx hy a8 a9
      refine zw_lload6 hB dX6_gcd_6 ?_
      refine zw_lconst (x := lN 0) hB dX6_gcd_8 (by decide) ?_
      refine zw_lcmp hB dX6_gcd_9 ?_
      refine zw_if_eq (tgt := 31) hB dX6_gcd_10 (by decide) (fun c10 => ?_) (fun c10 => ?_)
      · have y0 : y = 0 := (lcm0 (by omega)).mp c10
        have xg : x = Nat.gcd a b := by rw [← hg, y0, Nat.gcd_zero_right]
        refine zw_lload4 hB dX6_gcd_31 ?_
        refine zw_lret hB hR dX6_gcd_33 rfl ?_
        exact ⟨by rw [xg], rfl⟩
      · refine zw_lload4 hB dX6_gcd_13 ?_
        refine zw_lload6 hB dX6_gcd_15 ?_
        refine zw_lrem hB dX6_gcd_17 (fun z => c10 ((lcm0 (by omega)).mpr ((lNi (by omega) (by omega)).mp z))) ?_
        have yp : 0 < y := Nat.pos_of_ne_zero (fun z => c10 ((lcm0 (by omega)).mpr z))
        refine zw_eqV (y := .long (lN (x % y))) (by rw [pk_lRem (by omega) yp (by omega)]) ?_
        refine zw_lstore8 hB dX6_gcd_18 (by first | rfl | assumption) ?_
        refine zw_lload6 hB dX6_gcd_20 ?_
        refine zw_lstore4 hB dX6_gcd_22 (by first | rfl | assumption) ?_
        refine zw_lload8 hB dX6_gcd_24 ?_
        refine zw_lstore6 hB dX6_gcd_26 (by first | rfl | assumption) ?_
        refine zw_goto (tgt := 6) hB dX6_gcd_28 (by decide) ?_
        refine ih _ _ (Or.resolve_left hj (fun z => c10 ((lcm0 (by omega)).mpr z))) ?_ hy (by have := Nat.mod_lt x yp; omega) _ _
        rw [← hg, Nat.gcd_comm y, ← Nat.gcd_rec, Nat.gcd_comm]
  refine zw_lload0 hB dX6_gcd_0 ?_
  refine zw_lstore4 hB dX6_gcd_1 (by first | rfl | assumption) ?_
  refine zw_lload2 hB dX6_gcd_3 ?_
  refine zw_lstore6 hB dX6_gcd_4 (by first | rfl | assumption) ?_
  exact hl 63 a b (zeu_of 31 a b hb) rfl ha (by omega) _ _
theorem s_X6_partOf {n : Nat} {σ : zSt}  {a b b2 : Nat} (ha : a < 2 ^ 62) (hb0 : 0 < b) (hb : b < 2 ^ 31) (w : Int32) (hw : zou w (nI 1) = 0) (h2 : ¬ a = 0 → b2 = b) : zSem (n + 1) mX6_partOf [.long (lN a), .long (lN b2), .int w] σ (zP σ (.long (zpart a b w))) := by
  refine zSem.of (by decide +kernel) (Nat.le_of_ble_eq_true rfl) (fun X hB hR => ?_)
  show zW X 0 [some (.long (lN a)), none, some (.long (lN b2)), none, some (.int w)] [] σ
  have gp : 0 < Nat.gcd a b := Nat.gcd_pos_of_pos_right _ hb0
  have gl : Nat.gcd a b ≤ b := Nat.gcd_le_right _ hb0
  refine zw_lload0 hB dX6_partOf_0 ?_
  refine zw_lconst (x := lN 0) hB dX6_partOf_1 (by decide) ?_
  refine zw_lcmp hB dX6_partOf_2 ?_
  refine zw_if_ne (tgt := 10) hB dX6_partOf_3 (by decide) (fun c3 => ?_) (fun c3 => ?_)
  · have e2 := h2 (fun z => c3 ((lcm0 (by omega)).mpr z))
    subst e2
    refine zw_iload4 hB dX6_partOf_10 ?_
    refine zw_if_ne (tgt := 19) hB dX6_partOf_12 (by decide) (fun c12 => ?_) (fun c12 => ?_)
    · refine zw_lload2 hB dX6_partOf_19 ?_
      refine zw_lload0 hB dX6_partOf_20 ?_
      refine zw_lload2 hB dX6_partOf_21 ?_
      refine zw_callS2P (M' := mX6_gcd) hB dX6_partOf_22 zl_X6_170 zg_X6_gcd (s_X6_gcd ha hb) ?_
      refine zw_ldiv hB dX6_partOf_25 (fun z => absurd ((lNi (b := 0) (by omega) (by omega)).mp z) (by omega)) ?_
      refine zw_lret hB hR dX6_partOf_26 rfl ?_
      exact ⟨by unfold zpart; rw [if_neg (show ¬ w = nI 0 from c12), pk_lDiv (by omega) gp (by omega)], rfl⟩
    · refine zw_lload0 hB dX6_partOf_15 ?_
      refine zw_goto (tgt := 20) hB dX6_partOf_16 (by decide) ?_
      refine zw_lload0 hB dX6_partOf_20 ?_
      refine zw_lload2 hB dX6_partOf_21 ?_
      refine zw_callS2P (M' := mX6_gcd) hB dX6_partOf_22 zl_X6_170 zg_X6_gcd (s_X6_gcd ha hb) ?_
      refine zw_ldiv hB dX6_partOf_25 (fun z => absurd ((lNi (b := 0) (by omega) (by omega)).mp z) (by omega)) ?_
      refine zw_lret hB hR dX6_partOf_26 rfl ?_
      exact ⟨by unfold zpart; rw [if_pos (show w = nI 0 from c12), pk_lDiv (by omega) gp (by omega)], rfl⟩
  · refine zw_iload4 hB dX6_partOf_6 ?_
    refine zw_i2l hB dX6_partOf_8 ?_
    refine zw_lret hB hR dX6_partOf_9 rfl ?_
    have a0 : a = 0 := (lcm0 (by omega)).mp c3
    refine ⟨?_, rfl⟩
    subst a0
    obtain ⟨j, hj, rfl⟩ := zou_0 (by omega) hw
    have j2 : j = 0 ∨ j = 1 := by omega
    unfold zpart
    rw [Nat.gcd_zero_left]
    rcases j2 with rfl | rfl
    · rw [if_pos rfl, Nat.zero_div]; rfl
    · rw [if_neg (by decide), Nat.div_self hb0]; rfl
theorem s_X6_has {n : Nat} {σ : zSt}  {m i : Nat} (hm : m < 128) (hi : i < 7) : zSem n mX6_has [.int (nI m), .int (nI i)] σ (zP σ (.int (zb (m.testBit i = true)))) := by
  refine zSem.of (by decide +kernel) (Nat.le_of_ble_eq_true rfl) (fun X hB hR => ?_)
  show zW X 0 [some (.int (nI m)), some (.int (nI i))] [] σ
  refine zw_iload0 hB dX6_has_0 ?_
  refine zw_iload1 hB dX6_has_1 ?_
  refine zw_ishr hB dX6_has_2 ?_
  refine zw_iconst (x := nI 1) hB dX6_has_3 (by decide) ?_
  refine zw_iand hB dX6_has_4 ?_
  rw [zhas m hm i hi]
  refine zw_iconst (x := nI 1) hB dX6_has_5 (by decide) ?_
  refine zw_icmp_ne (tgt := 13) hB dX6_has_6 (by decide) (fun c6 => ?_) (fun c6 => ?_)
  · refine zw_iconst (x := nI 0) hB dX6_has_13 (by decide) ?_
    refine zw_zret hB hR dX6_has_14 rfl (by decide) ?_
    exact ⟨by rw [zb_f (fun z => c6 (by rw [if_pos z]))]; rfl, rfl⟩
  · refine zw_iconst (x := nI 1) hB dX6_has_9 (by decide) ?_
    refine zw_goto (tgt := 14) hB dX6_has_10 (by decide) ?_
    refine zw_zret hB hR dX6_has_14 rfl (by decide) ?_
    exact ⟨by rw [zb_t (Decidable.by_contra (fun z => by rw [if_neg z] at c6; exact absurd c6 (by decide)))]; rfl, rfl⟩
theorem s_X6_noWide {n : Nat} {σ : zSt}  {k : Nat} (c : Int32) (hc : -c = nI k) (hk : k < 7) : zSem (n + 1) mX6_noWide [.ref 50, .int c] σ (fun v τ => v = some (.long (4000000000000000000 - c.toInt64)) ∧ τ = zRf σ 59 k) := by
  refine zSem.of (by decide +kernel) (Nat.le_of_ble_eq_true rfl) (fun X hB hR => ?_)
  show zW X 0 [some (.ref 50), some (.int c)] [] σ
  refine zw_ldc2 hB dX6_noWide_0 zk_X6_46 ?_
  refine zw_aload0 hB dX6_noWide_3 ?_
  refine zw_iload1 hB dX6_noWide_4 ?_
  refine zw_callV1 (M' := mX6_no) hB dX6_noWide_5 zl_X6_48 zg_X6_no (zRc.of rfl rfl rfl) (s_X6_no c hc hk) (fun v5 σ5 hq5 => ?_)
  obtain ⟨rfl, rfl⟩ := hq5
  refine zw_i2l hB dX6_noWide_8 ?_
  refine zw_lsub hB dX6_noWide_9 ?_
  refine zw_lret hB hR dX6_noWide_10 rfl ?_
  exact ⟨rfl, rfl⟩
theorem s_X5_mean {n : Nat} {σ : zSt} {S : zS} (hS : zOk S) (h : zCW S σ) (w : Int32) : zSem (n + 4) mX5_mean [.ref 0, .int w] σ (zCQ (q_mean S w) σ) := by
  obtain ⟨⟨⟨F, P, hg0⟩, y0, hy0, ey0⟩, hkp, hlt, hrw⟩ := id hS
  have hnF := hg0.nF
  have hnP := hg0.nP
  have hr0 := h.1
  have hg : zGd (zrow σ 1) F P := by rw [hr0]; exact hg0
  have hF6 := hg.F6
  have hP6 := hg.P6
  have hF : σ 1 0 = nI F := hg.r0
  have hP : σ 1 1 = nI P := hg.r1
  unfold q_mean
  try rw [hnF]
  try rw [hnP]
  refine zSem.of (by decide +kernel) (Nat.le_of_ble_eq_true rfl) (fun X hB hR => ?_)
  show zW X 0 [some (.ref 0), some (.int w), none] [] σ
  have gS : ∃ g, g ≤ 90 * F ∧ zsum (zgn (zrow σ 1)) F = nI g := zsum_n F (fun i hi => zgn_n hg (by omega))
  obtain ⟨g, hg9, eg⟩ := gS
  refine zw_iload1 hB dX5_mean_0 ?_
  refine zw_iconst (x := nI 1) hB dX5_mean_1 (by decide) ?_
  refine zw_callS2P (M' := mX5_otherUnless) hB dX5_mean_2 zl_X5_85 zg_X5_otherUnless (s_X5_otherUnless _ _) ?_
  refine zw_istore2 hB dX5_mean_5 (by first | rfl | assumption) ?_
  refine zw_iload2 hB dX5_mean_6 ?_
  refine zw_if_eq (tgt := 21) hB dX5_mean_7 (by decide) (fun c7 => ?_) (fun c7 => ?_)
  · refine zw_aload0 hB dX5_mean_21 ?_
    refine zw_getfR hB dX5_mean_22 zf_X5_10 rfl rfl ?_
    refine zw_callV0P (M' := mX1_greenOfAll) hB dX5_mean_25 zl_X5_234 zg_X1_greenOfAll (zRc.of zld1.1 rfl rfl) (s_X1_greenOfAll zld1 hg) ?_
    rw [eg]
    refine zw_i2l hB dX5_mean_28 ?_
    refine zw_eqV (y := .long (lN g)) (by rw [nI_l (by omega)]) ?_
    refine zw_iconst (x := nI 1) hB dX5_mean_29 (by decide) ?_
    refine zw_aload0 hB dX5_mean_30 ?_
    refine zw_getfR hB dX5_mean_31 zf_X5_10 rfl rfl ?_
    refine zw_getfV (x := nI F) hB dX5_mean_34 zf_X5_237 zld1.1 rfl (hF) ?_
    refine zw_max hB dX5_mean_37 zl_X5_240 (by first | exact Nat.le_of_ble_eq_true rfl | decide) ?_
    refine zw_eqI (y := nI (if F = 0 then 1 else F)) (zmx1 F (by omega)) ?_
    refine zw_i2l hB dX5_mean_40 ?_
    refine zw_eqV (y := .long (lN (if F = 0 then 1 else F))) (by rw [nI_l (by split <;> omega)]) ?_
    refine zw_iload1 hB dX5_mean_41 ?_
    refine zw_callS3P (M' := mX5_termOf) hB dX5_mean_42 zl_X5_230 zg_X5_termOf (s_X5_termOf (a := g) (b := if F = 0 then 1 else F) (by omega) (by split <;> omega) (by split <;> omega) w) ?_
    refine zw_lret hB hR dX5_mean_45 rfl ?_
    rw [zqL_t c7]
    refine ⟨?_, h, fun _ _ => rfl⟩
    rw [← hr0, eg, nI_clamp (by omega)]
  · obtain ⟨k, hk, hc⟩ := (zcd_ou (w := w) (m := nI 1)).resolve_left c7
    refine zw_ldc2 hB dX5_mean_10 zk_X5_224 ?_
    refine zw_aload0 hB dX5_mean_13 ?_
    refine zw_iload2 hB dX5_mean_14 ?_
    refine zw_callV1 (M' := mX5_refuse) hB dX5_mean_15 zl_X5_58 zg_X5_refuse (zRc.of rfl rfl rfl) (s_X5_refuse _ hc hk) (fun v15 σ15 hq15 => ?_)
    obtain ⟨rfl, rfl⟩ := hq15
    refine zw_i2l hB dX5_mean_18 ?_
    refine zw_lsub hB dX5_mean_19 ?_
    refine zw_lret hB hR dX5_mean_20 rfl ?_
    exact zCQ.noL h c7 hk hc
theorem s_X6_mean {n : Nat} {σ : zSt} {S : zS} (hS : zOk S) (h : zRW S σ) (w : Int32) : zSem (n + 4) mX6_mean [.ref 50, .int w] σ (zRQ (q_mean S w) σ) := by
  obtain ⟨⟨⟨F, P, hg0⟩, y0, hy0, ey0⟩, hkp, hlt, hrw⟩ := id hS
  have hnF := hg0.nF
  have hnP := hg0.nP
  have hr0 := h.1
  have hg : zGd (zro σ 51) F P := by rw [hr0]; exact hg0
  have hF6 := hg.F6
  have hP6 := hg.P6
  have hF : σ 51 0 = nI F := (zro_k (by omega)).symm.trans hg.r0
  have hP : σ 51 1 = nI P := (zro_k (by omega)).symm.trans hg.r1
  unfold q_mean
  try rw [hnF]
  try rw [hnP]
  refine zSem.of (by decide +kernel) (Nat.le_of_ble_eq_true rfl) (fun X hB hR => ?_)
  show zW X 0 [some (.ref 50), some (.int w)] [] σ
  have gS : ∃ g, g ≤ 90 * F ∧ zsum (zgn (zro σ 51)) F = nI g := zsum_n F (fun i hi => zgn_n hg (by omega))
  obtain ⟨g, hg9, eg⟩ := gS
  refine zw_iload1 hB dX6_mean_0 ?_
  refine zw_iconst (x := nI 0) hB dX6_mean_1 (by decide) ?_
  refine zw_iconst (x := nI 1) hB dX6_mean_2 (by decide) ?_
  refine zw_callS3P (M' := mX6_isIn) hB dX6_mean_3 zl_X6_52 zg_X6_isIn (s_X6_isIn _ _ _) ?_
  refine zw_if_eqB (tgt := 31) hB dX6_mean_6 (by decide) (fun c6 => ?_) (fun c6 => ?_)
  · refine zw_aload0 hB dX6_mean_31 ?_
    refine zw_bipush (x := -2) hB dX6_mean_32 (by decide) ?_
    refine zw_callV1 (M' := mX6_noWide) hB dX6_mean_34 zl_X6_174 zg_X6_noWide (zRc.of rfl rfl rfl) (s_X6_noWide (k := 2) _ (by decide) (by omega)) (fun v34 σ34 hq34 => ?_)
    obtain ⟨rfl, rfl⟩ := hq34
    refine zw_lret hB hR dX6_mean_37 rfl ?_
    rw [zou_f (m := 1) (by omega) c6]
    exact zRQ.noL h (by decide) (by omega) (by decide)
  · refine zw_aload0 hB dX6_mean_9 ?_
    refine zw_getfR hB dX6_mean_10 zf_X6_9 rfl rfl ?_
    refine zw_callS1P (M' := mX6_greenAll) hB dX6_mean_13 zl_X6_182 zg_X6_greenAll (s_X6_greenAll (c := 51) rfl hF hF6) ?_
    rw [eg]
    refine zw_i2l hB dX6_mean_16 ?_
    refine zw_eqV (y := .long (lN g)) (by rw [nI_l (by omega)]) ?_
    refine zw_aload0 hB dX6_mean_17 ?_
    refine zw_getfR hB dX6_mean_18 zf_X6_9 rfl rfl ?_
    refine zw_iconst (x := nI 0) hB dX6_mean_21 (by decide) ?_
    refine zw_ialdV (x := nI F) hB dX6_mean_22 rfl (by omega) (by decide) (hF) ?_
    refine zw_i2l hB dX6_mean_23 ?_
    refine zw_eqV (y := .long (lN F)) (by rw [nI_l (by omega)]) ?_
    refine zw_iload1 hB dX6_mean_24 ?_
    refine zw_callS3P (M' := mX6_partOf) hB dX6_mean_25 zl_X6_178 zg_X6_partOf (s_X6_partOf (a := g) (b := if F = 0 then 1 else F) (b2 := F) (by omega) (by split <;> omega) (by split <;> omega) w (zou_t (m := 1) (by omega) c6) (fun z => by rw [if_neg (fun q => z (by omega))])) ?_
    refine zw_goto (tgt := 37) hB dX6_mean_28 (by decide) ?_
    refine zw_lret hB hR dX6_mean_37 rfl ?_
    rw [zqL_t (zou_t (m := 1) (by omega) c6)]
    refine ⟨?_, h, fun _ _ => rfl⟩
    rw [← hr0, eg, nI_clamp (by omega)]
theorem s_X3_waysThroughFrost {n : Nat} {σ : zSt} {F P : Nat} (hg : zGd (zrow σ 1) F P) {m t : Nat} (hm7 : m ≤ 7) (ht1 : 2 ≤ t) (ht : t ≤ 20) (v : Int32) : zSem (n + 4) mX3_waysThroughFrost [.ref 27, .ref 1, .int (nI m), .int (nI t), .int v] σ (fun x τ => x = some (.long (lN (zfR (zrow σ 1) P m t v))) ∧ ∀ d, (d < 28 ∨ 36 ≤ d) → d ≠ 46 → τ d = σ d) := by
  have hF6 := hg.F6
  have hP6 := hg.P6
  have hP : σ 1 1 = nI P := hg.r1
  refine zSem.of (by decide +kernel) (Nat.le_of_ble_eq_true rfl) (fun X hB hR => ?_)
  show zW X 0 [some (.ref 27), some (.ref 1), some (.int (nI m)), some (.int (nI t)), some (.int v), none, none, none, none, none, none, none, none] [] σ
  have hp2 := z2n_le m hm7
  have hl2 : ∀ υ : zSt, (∀ i, i < m → υ 46 i = zgy (zrow σ 1) P i) → (∀ d, (d < 28 ∨ 36 ≤ d) → d ≠ 46 → υ d = σ d) → ∀ k, k ≤ 2 ^ m → ∀ a9 a10 a11 a12 : Option Value, zc1 a9 = true → zc1 a11 = true → zW X 62 [some (.ref 27), some (.ref 1), some (.int (nI m)), some (.int (nI t)), some (.int v), some (.int (nI m)), some (.long (lN (zfS (fun k => zfG (zgy (zrow σ 1) P) m t v (fun i => k.testBit i)) k))), none, some (.int (nI k)), a9, a10, a11, a12] [] υ := by
    intro υ hv46 ou
    refine zfor (2 ^ m) (fun k hk ihk => ?_)
    intro a9 a10 a11 a12 k9 k11
    have hin : k < 2 ^ m → ∀ i, i ≤ m → zW X 80 [some (.ref 27), some (.ref 1), some (.int (nI m)), some (.int (nI t)), some (.int v), some (.int (nI m)), some (.long (lN (zfS (fun k => zfG (zgy (zrow σ 1) P) m t v (fun i => k.testBit i)) k))), none, some (.int (nI k)), some (.int (zfc (zgy (zrow σ 1) P) (fun i => k.testBit i) i)), some (.long (lN (zfw t (fun i => k.testBit i) i))), none, some (.int (nI i))] [] υ := by
      intro hkm
      have hk7 : k < 128 := by omega
      refine zfor m (fun i hi ih => ?_)
      refine zw_iload12 hB dX3_waysThroughFrost_80 ?_
      refine zw_iload5 hB dX3_waysThroughFrost_82 ?_
      refine zw_icmp_geN (tgt := 124) hB dX3_waysThroughFrost_84 (by decide) (by omega) (by omega) (fun c84 => ?_) (fun c84 => ?_)
      · refine zw_lload6 hB dX3_waysThroughFrost_124 ?_
        refine zw_iload9 hB dX3_waysThroughFrost_126 ?_
        refine zw_iload4 hB dX3_waysThroughFrost_128 ?_
        refine zw_icmp_lt (tgt := 138) hB dX3_waysThroughFrost_130 (by decide) (fun c130 => ?_) (fun c130 => ?_)
        · refine zw_lconst (x := lN 0) hB dX3_waysThroughFrost_138 (by decide) ?_
          refine zw_ladd hB dX3_waysThroughFrost_139 ?_
          refine zw_eqV (y := .long (lN (zfS (fun k => zfG (zgy (zrow σ 1) P) m t v (fun i => k.testBit i)) k + 0))) (by rw [lN_add]) ?_
          refine zw_lstore6 hB dX3_waysThroughFrost_140 (by first | rfl | assumption) ?_
          refine zw_iinc8 hB dX3_waysThroughFrost_142 (by first | exact zinc _ | rfl) (by first | rfl | assumption) ?_
          refine zw_goto (tgt := 62) hB dX3_waysThroughFrost_145 (by decide) ?_
          have ei : i = m := by omega
          rw [ei] at c130
          try rw [ei]
          have e3 : zfS (fun k => zfG (zgy (zrow σ 1) P) m t v (fun i => k.testBit i)) k + 0 = zfS (fun k => zfG (zgy (zrow σ 1) P) m t v (fun i => k.testBit i)) (k + 1) := by
            show _ = zfS (fun k => zfG (zgy (zrow σ 1) P) m t v (fun i => k.testBit i)) k + (fun k => zfG (zgy (zrow σ 1) P) m t v (fun i => k.testBit i)) k
            congr 1
            exact (if_pos c130).symm
          rw [e3]
          exact ihk hkm _ _ _ _ rfl rfl
        · refine zw_lload10 hB dX3_waysThroughFrost_133 ?_
          refine zw_goto (tgt := 139) hB dX3_waysThroughFrost_135 (by decide) ?_
          refine zw_ladd hB dX3_waysThroughFrost_139 ?_
          refine zw_eqV (y := .long (lN (zfS (fun k => zfG (zgy (zrow σ 1) P) m t v (fun i => k.testBit i)) k + zfw t (fun i => k.testBit i) i))) (by rw [lN_add]) ?_
          refine zw_lstore6 hB dX3_waysThroughFrost_140 (by first | rfl | assumption) ?_
          refine zw_iinc8 hB dX3_waysThroughFrost_142 (by first | exact zinc _ | rfl) (by first | rfl | assumption) ?_
          refine zw_goto (tgt := 62) hB dX3_waysThroughFrost_145 (by decide) ?_
          have ei : i = m := by omega
          rw [ei] at c130
          try rw [ei]
          have e3 : zfS (fun k => zfG (zgy (zrow σ 1) P) m t v (fun i => k.testBit i)) k + zfw t (fun i => k.testBit i) m = zfS (fun k => zfG (zgy (zrow σ 1) P) m t v (fun i => k.testBit i)) (k + 1) := by
            show _ = zfS (fun k => zfG (zgy (zrow σ 1) P) m t v (fun i => k.testBit i)) k + (fun k => zfG (zgy (zrow σ 1) P) m t v (fun i => k.testBit i)) k
            congr 1
            exact (if_neg c130).symm
          rw [e3]
          exact ihk hkm _ _ _ _ rfl rfl
      · refine zw_iload8 hB dX3_waysThroughFrost_87 ?_
        refine zw_iconst (x := nI 1) hB dX3_waysThroughFrost_89 (by decide) ?_
        refine zw_iload12 hB dX3_waysThroughFrost_90 ?_
        refine zw_ishl hB dX3_waysThroughFrost_92 ?_
        refine zw_iand hB dX3_waysThroughFrost_93 ?_
        refine zw_if_eq (tgt := 118) hB dX3_waysThroughFrost_94 (by decide) (fun c94 => ?_) (fun c94 => ?_)
        · refine zw_iinc12 hB dX3_waysThroughFrost_118 (by first | exact zinc _ | rfl) (by first | rfl | assumption) ?_
          refine zw_goto (tgt := 80) hB dX3_waysThroughFrost_121 (by decide) ?_
          have e1 : zfc (zgy (zrow σ 1) P) (fun i => k.testBit i) i = zfc (zgy (zrow σ 1) P) (fun i => k.testBit i) (i + 1) := (if_neg (fun z => absurd (((zbit k hk7 i (by omega)).mp c94).symm.trans z) (by decide))).symm
          have e2 : zfw t (fun i => k.testBit i) i = zfw t (fun i => k.testBit i) (i + 1) := (if_neg (fun z => absurd (((zbit k hk7 i (by omega)).mp c94).symm.trans z) (by decide))).symm
          rw [e1, e2]
          exact ih c84
        · refine zw_iload9 hB dX3_waysThroughFrost_97 ?_
          refine zw_aload0 hB dX3_waysThroughFrost_99 ?_
          refine zw_getfR hB dX3_waysThroughFrost_100 zf_X3_28 rfl rfl ?_
          refine zw_iload12 hB dX3_waysThroughFrost_103 ?_
          refine zw_ialdV (x := zgy (zrow σ 1) P i) hB dX3_waysThroughFrost_105 rfl (by omega) (by decide) (hv46 i c84) ?_
          refine zw_iadd hB dX3_waysThroughFrost_106 ?_
          refine zw_istore9 hB dX3_waysThroughFrost_107 (by first | rfl | assumption) ?_
          refine zw_lload10 hB dX3_waysThroughFrost_109 ?_
          refine zw_iload3 hB dX3_waysThroughFrost_111 ?_
          refine zw_iconst (x := nI 1) hB dX3_waysThroughFrost_112 (by decide) ?_
          refine zw_isubN hB dX3_waysThroughFrost_113 (by omega) ?_
          refine zw_i2l hB dX3_waysThroughFrost_114 ?_
          refine zw_eqV (y := .long (lN (t - 1))) (by rw [nI_l (by omega)]) ?_
          refine zw_lmul hB dX3_waysThroughFrost_115 ?_
          refine zw_eqV (y := .long (lN (zfw t (fun i => k.testBit i) i * (t - 1)))) (by rw [lN_mul]) ?_
          refine zw_lstore10 hB dX3_waysThroughFrost_116 (by first | rfl | assumption) ?_
          refine zw_iinc12 hB dX3_waysThroughFrost_118 (by first | exact zinc _ | rfl) (by first | rfl | assumption) ?_
          refine zw_goto (tgt := 80) hB dX3_waysThroughFrost_121 (by decide) ?_
          have hb : k.testBit i = true := by
            cases q : k.testBit i with
            | true => rfl
            | false => exact absurd ((zbit k hk7 i (by omega)).mpr q) c94
          have e1 : zfc (zgy (zrow σ 1) P) (fun i => k.testBit i) i + zgy (zrow σ 1) P i = zfc (zgy (zrow σ 1) P) (fun i => k.testBit i) (i + 1) := (if_pos hb).symm
          have e2 : zfw t (fun i => k.testBit i) i * (t - 1) = zfw t (fun i => k.testBit i) (i + 1) := (if_pos hb).symm
          rw [e1, e2]
          exact ih c84
    refine zw_iload8 hB dX3_waysThroughFrost_62 ?_
    refine zw_iconst (x := nI 1) hB dX3_waysThroughFrost_64 (by decide) ?_
    refine zw_iload5 hB dX3_waysThroughFrost_65 ?_
    refine zw_ishl hB dX3_waysThroughFrost_67 ?_
    rw [z2n m hm7]
    refine zw_icmp_geN (tgt := 148) hB dX3_waysThroughFrost_68 (by decide) (by omega) (by omega) (fun c68 => ?_) (fun c68 => ?_)
    · refine zw_lload6 hB dX3_waysThroughFrost_148 ?_
      refine zw_lret hB hR dX3_waysThroughFrost_150 rfl ?_
      exact ⟨by rw [show k = 2 ^ m by omega]; rfl, ou⟩
    · refine zw_iconst (x := nI 0) hB dX3_waysThroughFrost_71 (by decide) ?_
      refine zw_istore9 hB dX3_waysThroughFrost_72 (by first | rfl | assumption) ?_
      refine zw_lconst (x := lN 1) hB dX3_waysThroughFrost_74 (by decide) ?_
      refine zw_lstore10 hB dX3_waysThroughFrost_75 (by first | rfl | assumption) ?_
      refine zw_iconst (x := nI 0) hB dX3_waysThroughFrost_77 (by decide) ?_
      refine zw_istore12 hB dX3_waysThroughFrost_78 (by first | rfl | assumption) ?_
      exact hin c68 0 (by omega)
  have hl1 : ∀ i, i ≤ m → ∀ υ : zSt, (∀ q, q < i → υ 46 q = zgy (zrow σ 1) P q) → zrow υ 28 = zYs (zrow σ 1) i → (∀ d, (d < 28 ∨ 36 ≤ d) → d ≠ 46 → υ d = σ d) → zW X 22 [some (.ref 27), some (.ref 1), some (.int (nI m)), some (.int (nI t)), some (.int v), some (.int (nI m)), some (.int (nI i)), none, none, none, none, none, none] [] υ := by
    refine zfor m (fun i hi ih => ?_)
    intro υ hv zu ou
    have gu : zGd (zrow υ 28) F P := by rw [zu]; exact zGd_Ys hg i
    refine zw_iload6 hB dX3_waysThroughFrost_22 ?_
    refine zw_iload5 hB dX3_waysThroughFrost_24 ?_
    refine zw_icmp_geN (tgt := 56) hB dX3_waysThroughFrost_26 (by decide) (by omega) (by omega) (fun c26 => ?_) (fun c26 => ?_)
    · refine zw_lconst (x := lN 0) hB dX3_waysThroughFrost_56 (by decide) ?_
      refine zw_lstore6 hB dX3_waysThroughFrost_57 (by first | rfl | assumption) ?_
      refine zw_iconst (x := nI 0) hB dX3_waysThroughFrost_59 (by decide) ?_
      refine zw_istore8 hB dX3_waysThroughFrost_60 (by first | rfl | assumption) ?_
      exact hl2 υ (fun q hq => hv q (by omega)) ou 0 (Nat.zero_le _) _ _ _ _ rfl rfl
    · refine zw_aload0 hB dX3_waysThroughFrost_29 ?_
      refine zw_getfR hB dX3_waysThroughFrost_30 zf_X3_12 rfl rfl ?_
      refine zw_callV0 (M' := mX1_passYear) hB dX3_waysThroughFrost_33 zl_X3_49 zg_X1_passYear (zRc.of zld28.1 rfl rfl) (s_X1_passYear zld28 gu) (fun v33 σ33 hq33 => ?_)
      obtain ⟨rfl, y1, y2, y3, y4, y5⟩ := hq33
      refine zw_aload0 hB dX3_waysThroughFrost_36 ?_
      refine zw_getfR hB dX3_waysThroughFrost_37 zf_X3_28 rfl rfl ?_
      refine zw_iload6 hB dX3_waysThroughFrost_40 ?_
      refine zw_aload0 hB dX3_waysThroughFrost_42 ?_
      refine zw_getfR hB dX3_waysThroughFrost_43 zf_X3_12 rfl rfl ?_
      refine zw_getfV (x := zgy (zrow σ 1) P i) hB dX3_waysThroughFrost_46 zf_X3_108 zld28.1 rfl (by rw [y2, zu]; rfl) ?_
      refine zw_iastN hB dX3_waysThroughFrost_49 rfl (by omega) (by decide) ?_
      refine zw_iinc6 hB dX3_waysThroughFrost_50 (by first | exact zinc _ | rfl) (by first | rfl | assumption) ?_
      refine zw_goto (tgt := 22) hB dX3_waysThroughFrost_53 (by decide) ?_
      refine ih c26 _ (fun q hq => ?_) ?_ (fun d h1 h2 => ?_)
      · rw [zC_s]
        by_cases e : q = i
        · subst e; rw [zupd_s]
        · rw [zupd_o e, y5 46 (by omega)]; exact hv q (by omega)
      · rw [show zrow (zC σ33 46 _) 28 = zrow σ33 28 from zrow_congr (fun d _ _ => zC_n (by omega)), y1, zu]; rfl
      · rw [zC_n h2]; exact (y5 d (by omega)).trans (ou d h1 h2)
  refine zw_aload0 hB dX3_waysThroughFrost_0 ?_
  refine zw_getfR hB dX3_waysThroughFrost_1 zf_X3_12 rfl rfl ?_
  refine zw_aload1 hB dX3_waysThroughFrost_4 ?_
  refine zw_callV1 (M' := mX1_become) hB dX3_waysThroughFrost_5 zl_X3_35 zg_X1_become (zRc.of zld28.1 rfl rfl) (s_X1_become zld28 zld1 (by omega)) (fun v5 σ5 hq5 => ?_)
  obtain ⟨rfl, x1, x2⟩ := hq5
  refine zw_iload2 hB dX3_waysThroughFrost_8 ?_
  refine zw_aload0 hB dX3_waysThroughFrost_9 ?_
  refine zw_getfR hB dX3_waysThroughFrost_10 zf_X3_28 rfl rfl ?_
  refine zw_alen hB dX3_waysThroughFrost_13 rfl ?_
  refine zw_min hB dX3_waysThroughFrost_14 zl_X3_102 (by first | exact Nat.le_of_ble_eq_true rfl | decide) ?_
  refine zw_eqI (y := nI m) (by rw [if_neg (nI_nlt (by omega) (by omega))]) ?_
  refine zw_istore5 hB dX3_waysThroughFrost_17 (by first | rfl | assumption) ?_
  refine zw_iconst (x := nI 0) hB dX3_waysThroughFrost_19 (by decide) ?_
  refine zw_istore6 hB dX3_waysThroughFrost_20 (by first | rfl | assumption) ?_
  exact hl1 0 (by omega) σ5 (fun q hq => absurd hq (by omega)) (by rw [x1]; rfl) (fun d h1 _ => x2 d (by omega))
theorem s_X5_frost {n : Nat} {σ : zSt} {S : zS} (hS : zOk S) (h : zCW S σ) (n0 t0 v w : Int32) : zSem (n + 5) mX5_frost [.ref 0, .int n0, .int t0, .int v, .int w] σ (zCQ (q_frost S n0 t0 v w) σ) := by
  obtain ⟨⟨⟨F, P, hg0⟩, y0, hy0, ey0⟩, hkp, hlt, hrw⟩ := id hS
  have hnF := hg0.nF
  have hnP := hg0.nP
  have hr0 := h.1
  have hg : zGd (zrow σ 1) F P := by rw [hr0]; exact hg0
  have hF6 := hg.F6
  have hP6 := hg.P6
  have hF : σ 1 0 = nI F := hg.r0
  have hP : σ 1 1 = nI P := hg.r1
  unfold q_frost
  try rw [hnF]
  try rw [hnP]
  refine zSem.of (by decide +kernel) (Nat.le_of_ble_eq_true rfl) (fun X hB hR => ?_)
  show zW X 0 [some (.ref 0), some (.int n0), some (.int t0), some (.int v), some (.int w), none, none, none, none] [] σ
  have hl : ∀ a b : Nat, n0 = nI a → t0 = nI b → a ≤ 7 → 2 ≤ b → b ≤ 20 → w_frost (nI a) (nI b) v w = 0 → ∀ i, i ≤ a → ∀ a5 : Option Value, zc1 a5 = true → zW X 80 [some (.ref 0), some (.int (nI a)), some (.int (nI b)), some (.int v), some (.int w), a5, some (.long (lN (b ^ i))), none, some (.int (nI i))] [] σ := by
    rintro a b rfl rfl ha hb1 hb2 e0
    have hpb := zpow_b ha hb2 (by omega)
    have hwb : zfR (zrow σ 1) P a b v < 2 ^ 62 := by
      have h1 := zfS_le (f := fun m => zfG (zgy (zrow σ 1) P) a b v (fun i => m.testBit i)) (B := 1280000000) (fun m => zfG_le ha hb2 (by omega)) (2 ^ a)
      have h2 := z2n_le a ha
      have h3 : 2 ^ a * 1280000000 ≤ 128 * 1280000000 := Nat.mul_le_mul_right _ h2
      show zfS (fun m => zfG (zgy (zrow σ 1) P) a b v (fun i => m.testBit i)) (2 ^ a) < 2 ^ 62
      omega
    refine zfor a (fun i hi ih => ?_)
    intro a5 k5
    refine zw_iload8 hB dX5_frost_80 ?_
    refine zw_iload1 hB dX5_frost_82 ?_
    refine zw_icmp_geN (tgt := 99) hB dX5_frost_83 (by decide) (by omega) (by omega) (fun c83 => ?_) (fun c83 => ?_)
    · have ei : i = a := by omega
      rw [ei]
      refine zw_aload0 hB dX5_frost_99 ?_
      refine zw_getfR hB dX5_frost_100 zf_X5_32 rfl rfl ?_
      refine zw_aload0 hB dX5_frost_103 ?_
      refine zw_getfR hB dX5_frost_104 zf_X5_10 rfl rfl ?_
      refine zw_iload1 hB dX5_frost_107 ?_
      refine zw_iload2 hB dX5_frost_108 ?_
      refine zw_iload3 hB dX5_frost_109 ?_
      refine zw_callV4 (M' := mX3_waysThroughFrost) hB dX5_frost_110 zl_X5_226 zg_X3_waysThroughFrost (zRc.of rfl rfl rfl) (s_X3_waysThroughFrost hg ha hb1 hb2 v) (fun v110 σ110 hq110 => ?_)
      obtain ⟨rfl, x1⟩ := hq110
      refine zw_lload6 hB dX5_frost_113 ?_
      refine zw_iload4 hB dX5_frost_115 ?_
      refine zw_callS3P (M' := mX5_termOf) hB dX5_frost_117 zl_X5_230 zg_X5_termOf (s_X5_termOf hwb hpb.1 (by omega) w) ?_
      refine zw_lret hB hR dX5_frost_120 rfl ?_
      rw [zqL_t e0]
      refine ⟨?_, h.keep (fun c hc => x1 c (by omega) (by omega)), fun c hc => x1 c (by omega) (by omega)⟩
      rw [nI_clamp (by omega), nI_clamp (by omega), ← hr0]
    · refine zw_lload6 hB dX5_frost_86 ?_
      refine zw_iload2 hB dX5_frost_88 ?_
      refine zw_i2l hB dX5_frost_89 ?_
      refine zw_eqV (y := .long (lN b)) (by rw [nI_l (by omega)]) ?_
      refine zw_lmul hB dX5_frost_90 ?_
      refine zw_eqV (y := .long (lN (b ^ (i + 1)))) (by rw [lN_mul, Nat.pow_succ]) ?_
      refine zw_lstore6 hB dX5_frost_91 (by first | rfl | assumption) ?_
      refine zw_iinc8 hB dX5_frost_93 (by first | exact zinc _ | rfl) (by first | rfl | assumption) ?_
      refine zw_goto (tgt := 80) hB dX5_frost_96 (by decide) ?_
      exact ih c83 _ k5
  refine zw_iconst (x := nI 0) hB dX5_frost_0 (by decide) ?_
  refine zw_istore5 hB dX5_frost_1 (by first | rfl | assumption) ?_
  refine zw_iload1 hB dX5_frost_3 ?_
  refine zw_if_lt (tgt := 16) hB dX5_frost_4 (by decide) (fun c4 => ?_) (fun c4 => ?_)
  · refine zw_bipush (x := -4) hB dX5_frost_16 (by decide) ?_
    refine zw_eqI (y := w_frost n0 t0 v w) (by unfold w_frost; rw [if_pos (Or.inl c4)]) ?_
    refine zw_istore5 hB dX5_frost_18 (by first | rfl | assumption) ?_
    refine zw_goto (tgt := 57) hB dX5_frost_20 (by decide) ?_
    refine zw_iload5 hB dX5_frost_57 ?_
    refine zw_if_eq (tgt := 74) hB dX5_frost_59 (by decide) (fun c59 => ?_) (fun c59 => ?_)
    · obtain ⟨a, b, ha, rfl, hb1, hb2, rfl, e1⟩ := w_frost_0 c59
      refine zw_lconst (x := lN 1) hB dX5_frost_74 (by decide) ?_
      refine zw_lstore6 hB dX5_frost_75 (by first | rfl | assumption) ?_
      refine zw_iconst (x := nI 0) hB dX5_frost_77 (by decide) ?_
      refine zw_istore8 hB dX5_frost_78 (by first | rfl | assumption) ?_
      exact hl a b rfl rfl ha hb1 hb2 c59 0 (by omega) _ rfl
    · obtain ⟨k, hk, hc⟩ := (zcd_frost (n := n0) (t := t0) (v := v) (w := w)).resolve_left c59
      refine zw_ldc2 hB dX5_frost_62 zk_X5_224 ?_
      refine zw_aload0 hB dX5_frost_65 ?_
      refine zw_iload5 hB dX5_frost_66 ?_
      refine zw_callV1 (M' := mX5_refuse) hB dX5_frost_68 zl_X5_58 zg_X5_refuse (zRc.of rfl rfl rfl) (s_X5_refuse _ hc hk) (fun v68 σ68 hq68 => ?_)
      obtain ⟨rfl, rfl⟩ := hq68
      refine zw_i2l hB dX5_frost_71 ?_
      refine zw_lsub hB dX5_frost_72 ?_
      refine zw_lret hB hR dX5_frost_73 rfl ?_
      exact zCQ.noL h c59 hk hc
  · refine zw_iload3 hB dX5_frost_7 ?_
    refine zw_if_lt (tgt := 16) hB dX5_frost_8 (by decide) (fun c8 => ?_) (fun c8 => ?_)
    · refine zw_bipush (x := -4) hB dX5_frost_16 (by decide) ?_
      refine zw_eqI (y := w_frost n0 t0 v w) (by unfold w_frost; rw [if_pos (Or.inr (Or.inl c8))]) ?_
      refine zw_istore5 hB dX5_frost_18 (by first | rfl | assumption) ?_
      refine zw_goto (tgt := 57) hB dX5_frost_20 (by decide) ?_
      refine zw_iload5 hB dX5_frost_57 ?_
      refine zw_if_eq (tgt := 74) hB dX5_frost_59 (by decide) (fun c59 => ?_) (fun c59 => ?_)
      · obtain ⟨a, b, ha, rfl, hb1, hb2, rfl, e1⟩ := w_frost_0 c59
        refine zw_lconst (x := lN 1) hB dX5_frost_74 (by decide) ?_
        refine zw_lstore6 hB dX5_frost_75 (by first | rfl | assumption) ?_
        refine zw_iconst (x := nI 0) hB dX5_frost_77 (by decide) ?_
        refine zw_istore8 hB dX5_frost_78 (by first | rfl | assumption) ?_
        exact hl a b rfl rfl ha hb1 hb2 c59 0 (by omega) _ rfl
      · obtain ⟨k, hk, hc⟩ := (zcd_frost (n := n0) (t := t0) (v := v) (w := w)).resolve_left c59
        refine zw_ldc2 hB dX5_frost_62 zk_X5_224 ?_
        refine zw_aload0 hB dX5_frost_65 ?_
        refine zw_iload5 hB dX5_frost_66 ?_
        refine zw_callV1 (M' := mX5_refuse) hB dX5_frost_68 zl_X5_58 zg_X5_refuse (zRc.of rfl rfl rfl) (s_X5_refuse _ hc hk) (fun v68 σ68 hq68 => ?_)
        obtain ⟨rfl, rfl⟩ := hq68
        refine zw_i2l hB dX5_frost_71 ?_
        refine zw_lsub hB dX5_frost_72 ?_
        refine zw_lret hB hR dX5_frost_73 rfl ?_
        exact zCQ.noL h c59 hk hc
    · refine zw_iload2 hB dX5_frost_11 ?_
      refine zw_iconst (x := nI 2) hB dX5_frost_12 (by decide) ?_
      refine zw_icmp_ge (tgt := 23) hB dX5_frost_13 (by decide) (fun c13 => ?_) (fun c13 => ?_)
      · refine zw_iload1 hB dX5_frost_23 ?_
        refine zw_bipush (x := nI 7) hB dX5_frost_24 (by decide) ?_
        refine zw_icmp_gt (tgt := 42) hB dX5_frost_26 (by decide) (fun c26 => ?_) (fun c26 => ?_)
        · refine zw_bipush (x := -6) hB dX5_frost_42 (by decide) ?_
          refine zw_eqI (y := w_frost n0 t0 v w) (by unfold w_frost; rw [if_neg (fun z => z.elim c4 (fun z => z.elim c8 (fun z => absurd c13 (Int32.not_le.mpr z)))), if_pos (Or.inl c26)]) ?_
          refine zw_istore5 hB dX5_frost_44 (by first | rfl | assumption) ?_
          refine zw_goto (tgt := 57) hB dX5_frost_46 (by decide) ?_
          refine zw_iload5 hB dX5_frost_57 ?_
          refine zw_if_eq (tgt := 74) hB dX5_frost_59 (by decide) (fun c59 => ?_) (fun c59 => ?_)
          · obtain ⟨a, b, ha, rfl, hb1, hb2, rfl, e1⟩ := w_frost_0 c59
            refine zw_lconst (x := lN 1) hB dX5_frost_74 (by decide) ?_
            refine zw_lstore6 hB dX5_frost_75 (by first | rfl | assumption) ?_
            refine zw_iconst (x := nI 0) hB dX5_frost_77 (by decide) ?_
            refine zw_istore8 hB dX5_frost_78 (by first | rfl | assumption) ?_
            exact hl a b rfl rfl ha hb1 hb2 c59 0 (by omega) _ rfl
          · obtain ⟨k, hk, hc⟩ := (zcd_frost (n := n0) (t := t0) (v := v) (w := w)).resolve_left c59
            refine zw_ldc2 hB dX5_frost_62 zk_X5_224 ?_
            refine zw_aload0 hB dX5_frost_65 ?_
            refine zw_iload5 hB dX5_frost_66 ?_
            refine zw_callV1 (M' := mX5_refuse) hB dX5_frost_68 zl_X5_58 zg_X5_refuse (zRc.of rfl rfl rfl) (s_X5_refuse _ hc hk) (fun v68 σ68 hq68 => ?_)
            obtain ⟨rfl, rfl⟩ := hq68
            refine zw_i2l hB dX5_frost_71 ?_
            refine zw_lsub hB dX5_frost_72 ?_
            refine zw_lret hB hR dX5_frost_73 rfl ?_
            exact zCQ.noL h c59 hk hc
        · refine zw_iload2 hB dX5_frost_29 ?_
          refine zw_bipush (x := nI 20) hB dX5_frost_30 (by decide) ?_
          refine zw_icmp_gt (tgt := 42) hB dX5_frost_32 (by decide) (fun c32 => ?_) (fun c32 => ?_)
          · refine zw_bipush (x := -6) hB dX5_frost_42 (by decide) ?_
            refine zw_eqI (y := w_frost n0 t0 v w) (by unfold w_frost; rw [if_neg (fun z => z.elim c4 (fun z => z.elim c8 (fun z => absurd c13 (Int32.not_le.mpr z)))), if_pos (Or.inr (Or.inl c32))]) ?_
            refine zw_istore5 hB dX5_frost_44 (by first | rfl | assumption) ?_
            refine zw_goto (tgt := 57) hB dX5_frost_46 (by decide) ?_
            refine zw_iload5 hB dX5_frost_57 ?_
            refine zw_if_eq (tgt := 74) hB dX5_frost_59 (by decide) (fun c59 => ?_) (fun c59 => ?_)
            · obtain ⟨a, b, ha, rfl, hb1, hb2, rfl, e1⟩ := w_frost_0 c59
              refine zw_lconst (x := lN 1) hB dX5_frost_74 (by decide) ?_
              refine zw_lstore6 hB dX5_frost_75 (by first | rfl | assumption) ?_
              refine zw_iconst (x := nI 0) hB dX5_frost_77 (by decide) ?_
              refine zw_istore8 hB dX5_frost_78 (by first | rfl | assumption) ?_
              exact hl a b rfl rfl ha hb1 hb2 c59 0 (by omega) _ rfl
            · obtain ⟨k, hk, hc⟩ := (zcd_frost (n := n0) (t := t0) (v := v) (w := w)).resolve_left c59
              refine zw_ldc2 hB dX5_frost_62 zk_X5_224 ?_
              refine zw_aload0 hB dX5_frost_65 ?_
              refine zw_iload5 hB dX5_frost_66 ?_
              refine zw_callV1 (M' := mX5_refuse) hB dX5_frost_68 zl_X5_58 zg_X5_refuse (zRc.of rfl rfl rfl) (s_X5_refuse _ hc hk) (fun v68 σ68 hq68 => ?_)
              obtain ⟨rfl, rfl⟩ := hq68
              refine zw_i2l hB dX5_frost_71 ?_
              refine zw_lsub hB dX5_frost_72 ?_
              refine zw_lret hB hR dX5_frost_73 rfl ?_
              exact zCQ.noL h c59 hk hc
          · refine zw_iload3 hB dX5_frost_35 ?_
            refine zw_sipush (x := nI 999) hB dX5_frost_36 (by decide) ?_
            refine zw_icmp_le (tgt := 49) hB dX5_frost_39 (by decide) (fun c39 => ?_) (fun c39 => ?_)
            · refine zw_iload4 hB dX5_frost_49 ?_
              refine zw_iconst (x := nI 1) hB dX5_frost_51 (by decide) ?_
              refine zw_callS2P (M' := mX5_otherUnless) hB dX5_frost_52 zl_X5_85 zg_X5_otherUnless (s_X5_otherUnless _ _) ?_
              refine zw_eqI (y := w_frost n0 t0 v w) (by unfold w_frost; rw [if_neg (fun z => z.elim c4 (fun z => z.elim c8 (fun z => absurd c13 (Int32.not_le.mpr z)))), if_neg (fun z => z.elim c26 (fun z => z.elim c32 (fun z => absurd c39 (Int32.not_le.mpr z))))]) ?_
              refine zw_istore5 hB dX5_frost_55 (by first | rfl | assumption) ?_
              refine zw_iload5 hB dX5_frost_57 ?_
              refine zw_if_eq (tgt := 74) hB dX5_frost_59 (by decide) (fun c59 => ?_) (fun c59 => ?_)
              · obtain ⟨a, b, ha, rfl, hb1, hb2, rfl, e1⟩ := w_frost_0 c59
                refine zw_lconst (x := lN 1) hB dX5_frost_74 (by decide) ?_
                refine zw_lstore6 hB dX5_frost_75 (by first | rfl | assumption) ?_
                refine zw_iconst (x := nI 0) hB dX5_frost_77 (by decide) ?_
                refine zw_istore8 hB dX5_frost_78 (by first | rfl | assumption) ?_
                exact hl a b rfl rfl ha hb1 hb2 c59 0 (by omega) _ rfl
              · obtain ⟨k, hk, hc⟩ := (zcd_frost (n := n0) (t := t0) (v := v) (w := w)).resolve_left c59
                refine zw_ldc2 hB dX5_frost_62 zk_X5_224 ?_
                refine zw_aload0 hB dX5_frost_65 ?_
                refine zw_iload5 hB dX5_frost_66 ?_
                refine zw_callV1 (M' := mX5_refuse) hB dX5_frost_68 zl_X5_58 zg_X5_refuse (zRc.of rfl rfl rfl) (s_X5_refuse _ hc hk) (fun v68 σ68 hq68 => ?_)
                obtain ⟨rfl, rfl⟩ := hq68
                refine zw_i2l hB dX5_frost_71 ?_
                refine zw_lsub hB dX5_frost_72 ?_
                refine zw_lret hB hR dX5_frost_73 rfl ?_
                exact zCQ.noL h c59 hk hc
            · refine zw_bipush (x := -6) hB dX5_frost_42 (by decide) ?_
              refine zw_eqI (y := w_frost n0 t0 v w) (by unfold w_frost; rw [if_neg (fun z => z.elim c4 (fun z => z.elim c8 (fun z => absurd c13 (Int32.not_le.mpr z)))), if_pos (Or.inr (Or.inr (Int32.not_le.mp c39)))]) ?_
              refine zw_istore5 hB dX5_frost_44 (by first | rfl | assumption) ?_
              refine zw_goto (tgt := 57) hB dX5_frost_46 (by decide) ?_
              refine zw_iload5 hB dX5_frost_57 ?_
              refine zw_if_eq (tgt := 74) hB dX5_frost_59 (by decide) (fun c59 => ?_) (fun c59 => ?_)
              · obtain ⟨a, b, ha, rfl, hb1, hb2, rfl, e1⟩ := w_frost_0 c59
                refine zw_lconst (x := lN 1) hB dX5_frost_74 (by decide) ?_
                refine zw_lstore6 hB dX5_frost_75 (by first | rfl | assumption) ?_
                refine zw_iconst (x := nI 0) hB dX5_frost_77 (by decide) ?_
                refine zw_istore8 hB dX5_frost_78 (by first | rfl | assumption) ?_
                exact hl a b rfl rfl ha hb1 hb2 c59 0 (by omega) _ rfl
              · obtain ⟨k, hk, hc⟩ := (zcd_frost (n := n0) (t := t0) (v := v) (w := w)).resolve_left c59
                refine zw_ldc2 hB dX5_frost_62 zk_X5_224 ?_
                refine zw_aload0 hB dX5_frost_65 ?_
                refine zw_iload5 hB dX5_frost_66 ?_
                refine zw_callV1 (M' := mX5_refuse) hB dX5_frost_68 zl_X5_58 zg_X5_refuse (zRc.of rfl rfl rfl) (s_X5_refuse _ hc hk) (fun v68 σ68 hq68 => ?_)
                obtain ⟨rfl, rfl⟩ := hq68
                refine zw_i2l hB dX5_frost_71 ?_
                refine zw_lsub hB dX5_frost_72 ?_
                refine zw_lret hB hR dX5_frost_73 rfl ?_
                exact zCQ.noL h c59 hk hc
      · refine zw_bipush (x := -4) hB dX5_frost_16 (by decide) ?_
        refine zw_eqI (y := w_frost n0 t0 v w) (by unfold w_frost; rw [if_pos (Or.inr (Or.inr (Int32.not_le.mp c13)))]) ?_
        refine zw_istore5 hB dX5_frost_18 (by first | rfl | assumption) ?_
        refine zw_goto (tgt := 57) hB dX5_frost_20 (by decide) ?_
        refine zw_iload5 hB dX5_frost_57 ?_
        refine zw_if_eq (tgt := 74) hB dX5_frost_59 (by decide) (fun c59 => ?_) (fun c59 => ?_)
        · obtain ⟨a, b, ha, rfl, hb1, hb2, rfl, e1⟩ := w_frost_0 c59
          refine zw_lconst (x := lN 1) hB dX5_frost_74 (by decide) ?_
          refine zw_lstore6 hB dX5_frost_75 (by first | rfl | assumption) ?_
          refine zw_iconst (x := nI 0) hB dX5_frost_77 (by decide) ?_
          refine zw_istore8 hB dX5_frost_78 (by first | rfl | assumption) ?_
          exact hl a b rfl rfl ha hb1 hb2 c59 0 (by omega) _ rfl
        · obtain ⟨k, hk, hc⟩ := (zcd_frost (n := n0) (t := t0) (v := v) (w := w)).resolve_left c59
          refine zw_ldc2 hB dX5_frost_62 zk_X5_224 ?_
          refine zw_aload0 hB dX5_frost_65 ?_
          refine zw_iload5 hB dX5_frost_66 ?_
          refine zw_callV1 (M' := mX5_refuse) hB dX5_frost_68 zl_X5_58 zg_X5_refuse (zRc.of rfl rfl rfl) (s_X5_refuse _ hc hk) (fun v68 σ68 hq68 => ?_)
          obtain ⟨rfl, rfl⟩ := hq68
          refine zw_i2l hB dX5_frost_71 ?_
          refine zw_lsub hB dX5_frost_72 ?_
          refine zw_lret hB hR dX5_frost_73 rfl ?_
          exact zCQ.noL h c59 hk hc
theorem s_X6_frost {n : Nat} {σ : zSt} {S : zS} (hS : zOk S) (h : zRW S σ) (n0 t0 v w : Int32) : zSem (n + 4) mX6_frost [.ref 50, .int n0, .int t0, .int v, .int w] σ (zRQ (q_frost S n0 t0 v w) σ) := by
  obtain ⟨⟨⟨F, P, hg0⟩, y0, hy0, ey0⟩, hkp, hlt, hrw⟩ := id hS
  have hnF := hg0.nF
  have hnP := hg0.nP
  have hr0 := h.1
  have hg : zGd (zro σ 51) F P := by rw [hr0]; exact hg0
  have hF6 := hg.F6
  have hP6 := hg.P6
  have hF : σ 51 0 = nI F := (zro_k (by omega)).symm.trans hg.r0
  have hP : σ 51 1 = nI P := (zro_k (by omega)).symm.trans hg.r1
  unfold q_frost
  try rw [hnF]
  try rw [hnP]
  refine zSem.of (by decide +kernel) (Nat.le_of_ble_eq_true rfl) (fun X hB hR => ?_)
  show zW X 0 [some (.ref 50), some (.int n0), some (.int t0), some (.int v), some (.int w), none, none, none, none, none, none, none, none, none] [] σ
  have hl : ∀ a b : Nat, n0 = nI a → t0 = nI b → a ≤ 7 → 2 ≤ b → b ≤ 20 → w_frost (nI a) (nI b) v w = 0 → zou w (nI 1) = 0 → ∀ i, i ≤ a → zW X 72 [some (.ref 50), some (.int (nI a)), some (.int (nI b)), some (.int v), some (.int w), some (.long (lN 0)), none, some (.long (lN (b ^ i))), none, some (.int (nI i)), none, none, none, none] [] σ := by
    rintro a b rfl rfl ha hb1 hb2 e0 e1
    have hpb := zpow_b ha hb2 (by omega)
    have hp2 := z2n_le a ha
    have hwb : zfR (zro σ 51) P a b v < 2 ^ 62 := by
      have h1 := zfS_le (f := fun m => zfG (zgy (zro σ 51) P) a b v (fun i => m.testBit i)) (B := 1280000000) (fun m => zfG_le ha hb2 (by omega)) (2 ^ a)
      have h3 : 2 ^ a * 1280000000 ≤ 128 * 1280000000 := Nat.mul_le_mul_right _ hp2
      show zfS (fun m => zfG (zgy (zro σ 51) P) a b v (fun i => m.testBit i)) (2 ^ a) < 2 ^ 62
      omega
    have hlB : ∀ k, k ≤ 2 ^ a → ∀ (υ : zSt) (a10 a11 a12 a13 : Option Value), zc1 a11 = true → zc1 a12 = true → zR3 σ υ → zW X 94 [some (.ref 50), some (.int (nI a)), some (.int (nI b)), some (.int v), some (.int w), some (.long (lN (zfS (fun k => zfG (zgy (zro σ 51) P) a b v (fun i => !k.testBit i)) k))), none, some (.long (lN (b ^ a))), none, some (.int (nI k)), a10, a11, a12, a13] [] υ := by
      refine zfor (2 ^ a) (fun k hk ihk => ?_)
      intro υ a10 a11 a12 a13 k11 k12 ou
      have hin : k < 2 ^ a → ∀ i, i ≤ a → ∀ υ : zSt, zR3 σ υ → zE3 (zro υ 52) (zYs (zro σ 51) i) → zGd (zro υ 52) F P → zW X 122 [some (.ref 50), some (.int (nI a)), some (.int (nI b)), some (.int v), some (.int w), some (.long (lN (zfS (fun k => zfG (zgy (zro σ 51) P) a b v (fun i => !k.testBit i)) k))), none, some (.long (lN (b ^ a))), none, some (.int (nI k)), some (.long (lN (zfw b (fun i => !k.testBit i) i))), none, some (.int (zfc (zgy (zro σ 51) P) (fun i => !k.testBit i) i)), some (.int (nI i))] [] υ := by
        intro hkm
        have hk7 : k < 128 := by omega
        refine zfor a (fun i hi ih => ?_)
        intro υ ou zu gu
        refine zw_iload13 hB dX6_frost_122 ?_
        refine zw_iload1 hB dX6_frost_124 ?_
        refine zw_icmp_geN (tgt := 177) hB dX6_frost_125 (by decide) (by omega) (by omega) (fun c125 => ?_) (fun c125 => ?_)
        · refine zw_lload5 hB dX6_frost_177 ?_
          refine zw_iload12 hB dX6_frost_179 ?_
          refine zw_iload3 hB dX6_frost_181 ?_
          refine zw_icmp_lt (tgt := 190) hB dX6_frost_182 (by decide) (fun c182 => ?_) (fun c182 => ?_)
          · refine zw_lconst (x := lN 0) hB dX6_frost_190 (by decide) ?_
            refine zw_ladd hB dX6_frost_191 ?_
            refine zw_eqV (y := .long (lN (zfS (fun k => zfG (zgy (zro σ 51) P) a b v (fun i => !k.testBit i)) k + 0))) (by rw [lN_add]) ?_
            refine zw_lstore5 hB dX6_frost_192 (by first | rfl | assumption) ?_
            refine zw_iinc9 hB dX6_frost_194 (by first | exact zinc _ | rfl) (by first | rfl | assumption) ?_
            refine zw_goto (tgt := 94) hB dX6_frost_197 (by decide) ?_
            have ei : i = a := by omega
            rw [ei] at c182
            try rw [ei]
            have e3 : zfS (fun k => zfG (zgy (zro σ 51) P) a b v (fun i => !k.testBit i)) k + 0 = zfS (fun k => zfG (zgy (zro σ 51) P) a b v (fun i => !k.testBit i)) (k + 1) := by
              show _ = zfS (fun k => zfG (zgy (zro σ 51) P) a b v (fun i => !k.testBit i)) k + (fun k => zfG (zgy (zro σ 51) P) a b v (fun i => !k.testBit i)) k
              congr 1
              exact (if_pos c182).symm
            rw [e3]
            exact ihk hkm _ _ _ _ _ rfl rfl ou
          · refine zw_lload10 hB dX6_frost_185 ?_
            refine zw_goto (tgt := 191) hB dX6_frost_187 (by decide) ?_
            refine zw_ladd hB dX6_frost_191 ?_
            refine zw_eqV (y := .long (lN (zfS (fun k => zfG (zgy (zro σ 51) P) a b v (fun i => !k.testBit i)) k + zfw b (fun i => !k.testBit i) i))) (by rw [lN_add]) ?_
            refine zw_lstore5 hB dX6_frost_192 (by first | rfl | assumption) ?_
            refine zw_iinc9 hB dX6_frost_194 (by first | exact zinc _ | rfl) (by first | rfl | assumption) ?_
            refine zw_goto (tgt := 94) hB dX6_frost_197 (by decide) ?_
            have ei : i = a := by omega
            rw [ei] at c182
            try rw [ei]
            have e3 : zfS (fun k => zfG (zgy (zro σ 51) P) a b v (fun i => !k.testBit i)) k + zfw b (fun i => !k.testBit i) a = zfS (fun k => zfG (zgy (zro σ 51) P) a b v (fun i => !k.testBit i)) (k + 1) := by
              show _ = zfS (fun k => zfG (zgy (zro σ 51) P) a b v (fun i => !k.testBit i)) k + (fun k => zfG (zgy (zro σ 51) P) a b v (fun i => !k.testBit i)) k
              congr 1
              exact (if_neg c182).symm
            rw [e3]
            exact ihk hkm _ _ _ _ _ rfl rfl ou
        · refine zw_lload10 hB dX6_frost_128 ?_
          refine zw_iload9 hB dX6_frost_130 ?_
          refine zw_iload13 hB dX6_frost_132 ?_
          refine zw_callS2P (M' := mX6_has) hB dX6_frost_134 zl_X6_151 zg_X6_has (s_X6_has hk7 (by omega)) ?_
          refine zw_if_eqB (tgt := 144) hB dX6_frost_137 (by decide) (fun c137 => ?_) (fun c137 => ?_)
          · refine zw_iload2 hB dX6_frost_144 ?_
            refine zw_iconst (x := nI 1) hB dX6_frost_145 (by decide) ?_
            refine zw_isubN hB dX6_frost_146 (by omega) ?_
            refine zw_i2l hB dX6_frost_147 ?_
            refine zw_eqV (y := .long (lN (b - 1))) (by rw [nI_l (by omega)]) ?_
            refine zw_lmul hB dX6_frost_148 ?_
            refine zw_eqV (y := .long (lN (zfw b (fun i => !k.testBit i) (i + 1)))) (by rw [lN_mul, show zfw b (fun i => !k.testBit i) (i + 1) = zfw b (fun i => !k.testBit i) i * (b - 1) from if_pos (by show (!k.testBit i) = true; rw [Bool.eq_false_iff.mpr c137]; rfl)]) ?_
            refine zw_lstore10 hB dX6_frost_149 (by first | rfl | assumption) ?_
            refine zw_iload12 hB dX6_frost_151 ?_
            refine zw_aload0 hB dX6_frost_153 ?_
            refine zw_aload0 hB dX6_frost_154 ?_
            refine zw_getfR hB dX6_frost_155 zf_X6_13 rfl rfl ?_
            refine zw_iload9 hB dX6_frost_158 ?_
            refine zw_iload13 hB dX6_frost_160 ?_
            refine zw_callS2P (M' := mX6_has) hB dX6_frost_162 zl_X6_151 zg_X6_has (s_X6_has hk7 (by omega)) ?_
            refine zw_callV2 (M' := mX6_year) hB dX6_frost_165 zl_X6_84 zg_X6_year (zRc.of rfl rfl rfl) (s_X6_year (c := 52) rfl (by omega) gu _) (fun v165 σ165 hq165 => ?_)
            obtain ⟨rfl, y1, y2, y3, y4⟩ := hq165
            refine zw_eqI (y := zgy (zro σ 51) P i) (by rw [zb_f c137, zsum_gz0]; exact zu.Al P) ?_
            refine zw_iadd hB dX6_frost_168 ?_
            refine zw_eqI (y := zfc (zgy (zro σ 51) P) (fun i => !k.testBit i) (i + 1)) (by rw [show zfc (zgy (zro σ 51) P) (fun i => !k.testBit i) (i + 1) = zfc (zgy (zro σ 51) P) (fun i => !k.testBit i) i + zgy (zro σ 51) P i from if_pos (by show (!k.testBit i) = true; rw [Bool.eq_false_iff.mpr c137]; rfl)]) ?_
            refine zw_istore12 hB dX6_frost_169 (by first | rfl | assumption) ?_
            refine zw_iinc13 hB dX6_frost_171 (by first | exact zinc _ | rfl) (by first | rfl | assumption) ?_
            refine zw_goto (tgt := 122) hB dX6_frost_174 (by decide) ?_
            exact ih c125 _ (ou.tr (zR3.b y4)) (by rw [y1]; exact zu.Yw _ _) (by rw [y1]; exact zGd_Yw gu _)
          · refine zw_lconst (x := lN 1) hB dX6_frost_140 (by decide) ?_
            refine zw_goto (tgt := 148) hB dX6_frost_141 (by decide) ?_
            refine zw_lmul hB dX6_frost_148 ?_
            refine zw_eqV (y := .long (lN (zfw b (fun i => !k.testBit i) (i + 1)))) (by rw [lN_mul, Nat.mul_one, show zfw b (fun i => !k.testBit i) (i + 1) = zfw b (fun i => !k.testBit i) i from if_neg (by show ¬ (!k.testBit i) = true; rw [c137]; decide)]) ?_
            refine zw_lstore10 hB dX6_frost_149 (by first | rfl | assumption) ?_
            refine zw_iload12 hB dX6_frost_151 ?_
            refine zw_aload0 hB dX6_frost_153 ?_
            refine zw_aload0 hB dX6_frost_154 ?_
            refine zw_getfR hB dX6_frost_155 zf_X6_13 rfl rfl ?_
            refine zw_iload9 hB dX6_frost_158 ?_
            refine zw_iload13 hB dX6_frost_160 ?_
            refine zw_callS2P (M' := mX6_has) hB dX6_frost_162 zl_X6_151 zg_X6_has (s_X6_has hk7 (by omega)) ?_
            refine zw_callV2 (M' := mX6_year) hB dX6_frost_165 zl_X6_84 zg_X6_year (zRc.of rfl rfl rfl) (s_X6_year (c := 52) rfl (by omega) gu _) (fun v165 σ165 hq165 => ?_)
            obtain ⟨rfl, y1, y2, y3, y4⟩ := hq165
            refine zw_eqI (y := nI 0) (zsum_gz1 (by rw [zb_t c137]; decide)) ?_
            refine zw_iadd hB dX6_frost_168 ?_
            refine zw_eqI (y := zfc (zgy (zro σ 51) P) (fun i => !k.testBit i) (i + 1)) (by rw [show zfc (zgy (zro σ 51) P) (fun i => !k.testBit i) (i + 1) = zfc (zgy (zro σ 51) P) (fun i => !k.testBit i) i from if_neg (by show ¬ (!k.testBit i) = true; rw [c137]; decide), nI_0, Int32.add_zero]) ?_
            refine zw_istore12 hB dX6_frost_169 (by first | rfl | assumption) ?_
            refine zw_iinc13 hB dX6_frost_171 (by first | exact zinc _ | rfl) (by first | rfl | assumption) ?_
            refine zw_goto (tgt := 122) hB dX6_frost_174 (by decide) ?_
            exact ih c125 _ (ou.tr (zR3.b y4)) (by rw [y1]; exact zu.Yw _ _) (by rw [y1]; exact zGd_Yw gu _)
      refine zw_iload9 hB dX6_frost_94 ?_
      refine zw_iconst (x := nI 1) hB dX6_frost_96 (by decide) ?_
      refine zw_iload1 hB dX6_frost_97 ?_
      refine zw_ishl hB dX6_frost_98 ?_
      rw [z2n a ha]
      refine zw_icmp_geN (tgt := 200) hB dX6_frost_99 (by decide) (by omega) (by omega) (fun c99 => ?_) (fun c99 => ?_)
      · have ek : zfS (fun k => zfG (zgy (zro σ 51) P) a b v (fun i => !k.testBit i)) k = zfR (zro σ 51) P a b v := by rw [show k = 2 ^ a by omega]; exact zfS_not _ a b v
        refine zw_lload5 hB dX6_frost_200 ?_
        refine zw_lload7 hB dX6_frost_202 ?_
        refine zw_iload4 hB dX6_frost_204 ?_
        refine zw_callS3P (M' := mX6_partOf) hB dX6_frost_206 zl_X6_178 zg_X6_partOf (s_X6_partOf (a := zfS (fun k => zfG (zgy (zro σ 51) P) a b v (fun i => !k.testBit i)) k) (b := b ^ a) (b2 := b ^ a) (by rw [ek]; exact hwb) hpb.1 (by omega) w e1 (fun _ => rfl)) ?_
        refine zw_lret hB hR dX6_frost_209 rfl ?_
        rw [zqL_t e0]
        refine ⟨?_, h.keep (by rw [ou 50 (by omega) (by omega) (by omega) (by omega)]; exact ⟨rfl, rfl, rfl⟩) (fun c hc => ou c (by omega) (by omega) (by omega) (by omega)), fun c hc => ou c (by omega) (by omega) (by omega) (by omega)⟩
        rw [nI_clamp (by omega), nI_clamp (by omega), ← hr0, ek]
      · refine zw_lconst (x := lN 1) hB dX6_frost_102 (by decide) ?_
        refine zw_lstore10 hB dX6_frost_103 (by first | rfl | assumption) ?_
        refine zw_iconst (x := nI 0) hB dX6_frost_105 (by decide) ?_
        refine zw_istore12 hB dX6_frost_106 (by first | rfl | assumption) ?_
        refine zw_aload0 hB dX6_frost_108 ?_
        refine zw_getfR hB dX6_frost_109 zf_X6_9 rfl rfl ?_
        refine zw_aload0 hB dX6_frost_112 ?_
        refine zw_getfR hB dX6_frost_113 zf_X6_13 rfl rfl ?_
        refine zw_callS2 (M' := mX6_copies) hB dX6_frost_116 zl_X6_130 zg_X6_copies (s_X6_copies (c := 51) (d := 52) rfl rfl (by decide)) (fun v116 σ116 hq116 => ?_)
        obtain ⟨rfl, x1, x2⟩ := hq116
        refine zw_iconst (x := nI 0) hB dX6_frost_119 (by decide) ?_
        refine zw_istore13 hB dX6_frost_120 (by first | rfl | assumption) ?_
        exact hin c99 0 (by omega) _ (ou.tr (zR3.a x2)) (by rw [x1, ou.ro]; exact fun _ _ => rfl) (by rw [x1, ou.ro]; exact hg)
    refine zfor a (fun i hi ihA => ?_)
    refine zw_iload9 hB dX6_frost_72 ?_
    refine zw_iload1 hB dX6_frost_74 ?_
    refine zw_icmp_geN (tgt := 91) hB dX6_frost_75 (by decide) (by omega) (by omega) (fun c75 => ?_) (fun c75 => ?_)
    · have ei : i = a := by omega
      rw [ei]
      refine zw_iconst (x := nI 0) hB dX6_frost_91 (by decide) ?_
      refine zw_istore9 hB dX6_frost_92 (by first | rfl | assumption) ?_
      exact hlB 0 (Nat.zero_le _) σ _ _ _ _ rfl rfl zR3.rf
    · refine zw_lload7 hB dX6_frost_78 ?_
      refine zw_iload2 hB dX6_frost_80 ?_
      refine zw_i2l hB dX6_frost_81 ?_
      refine zw_eqV (y := .long (lN b)) (by rw [nI_l (by omega)]) ?_
      refine zw_lmul hB dX6_frost_82 ?_
      refine zw_eqV (y := .long (lN (b ^ (i + 1)))) (by rw [lN_mul, Nat.pow_succ]) ?_
      refine zw_lstore7 hB dX6_frost_83 (by first | rfl | assumption) ?_
      refine zw_iinc9 hB dX6_frost_85 (by first | exact zinc _ | rfl) (by first | rfl | assumption) ?_
      refine zw_goto (tgt := 72) hB dX6_frost_88 (by decide) ?_
      exact ihA c75
  refine zw_iload1 hB dX6_frost_0 ?_
  refine zw_if_lt (tgt := 13) hB dX6_frost_1 (by decide) (fun c1 => ?_) (fun c1 => ?_)
  · refine zw_aload0 hB dX6_frost_13 ?_
    refine zw_bipush (x := -4) hB dX6_frost_14 (by decide) ?_
    refine zw_callV1 (M' := mX6_noWide) hB dX6_frost_16 zl_X6_174 zg_X6_noWide (zRc.of rfl rfl rfl) (s_X6_noWide (k := 4) _ (by decide) (by omega)) (fun v16 σ16 hq16 => ?_)
    obtain ⟨rfl, rfl⟩ := hq16
    refine zw_lret hB hR dX6_frost_19 rfl ?_
    rw [show w_frost n0 t0 v w = -4 by unfold w_frost; rw [if_pos (Or.inl c1)]]
    exact zRQ.noL h (by decide) (by omega) (by decide)
  · refine zw_iload3 hB dX6_frost_4 ?_
    refine zw_if_lt (tgt := 13) hB dX6_frost_5 (by decide) (fun c5 => ?_) (fun c5 => ?_)
    · refine zw_aload0 hB dX6_frost_13 ?_
      refine zw_bipush (x := -4) hB dX6_frost_14 (by decide) ?_
      refine zw_callV1 (M' := mX6_noWide) hB dX6_frost_16 zl_X6_174 zg_X6_noWide (zRc.of rfl rfl rfl) (s_X6_noWide (k := 4) _ (by decide) (by omega)) (fun v16 σ16 hq16 => ?_)
      obtain ⟨rfl, rfl⟩ := hq16
      refine zw_lret hB hR dX6_frost_19 rfl ?_
      rw [show w_frost n0 t0 v w = -4 by unfold w_frost; rw [if_pos (Or.inr (Or.inl c5))]]
      exact zRQ.noL h (by decide) (by omega) (by decide)
    · refine zw_iload2 hB dX6_frost_8 ?_
      refine zw_iconst (x := nI 2) hB dX6_frost_9 (by decide) ?_
      refine zw_icmp_ge (tgt := 20) hB dX6_frost_10 (by decide) (fun c10 => ?_) (fun c10 => ?_)
      · refine zw_iload1 hB dX6_frost_20 ?_
        refine zw_bipush (x := nI 7) hB dX6_frost_21 (by decide) ?_
        refine zw_icmp_gt (tgt := 39) hB dX6_frost_23 (by decide) (fun c23 => ?_) (fun c23 => ?_)
        · refine zw_aload0 hB dX6_frost_39 ?_
          refine zw_bipush (x := -6) hB dX6_frost_40 (by decide) ?_
          refine zw_callV1 (M' := mX6_noWide) hB dX6_frost_42 zl_X6_174 zg_X6_noWide (zRc.of rfl rfl rfl) (s_X6_noWide (k := 6) _ (by decide) (by omega)) (fun v42 σ42 hq42 => ?_)
          obtain ⟨rfl, rfl⟩ := hq42
          refine zw_lret hB hR dX6_frost_45 rfl ?_
          rw [show w_frost n0 t0 v w = -6 by unfold w_frost; rw [if_neg (fun z => z.elim c1 (fun z => z.elim c5 (fun z => absurd c10 (Int32.not_le.mpr z)))), if_pos (Or.inl c23)]]
          exact zRQ.noL h (by decide) (by omega) (by decide)
        · refine zw_iload2 hB dX6_frost_26 ?_
          refine zw_bipush (x := nI 20) hB dX6_frost_27 (by decide) ?_
          refine zw_icmp_gt (tgt := 39) hB dX6_frost_29 (by decide) (fun c29 => ?_) (fun c29 => ?_)
          · refine zw_aload0 hB dX6_frost_39 ?_
            refine zw_bipush (x := -6) hB dX6_frost_40 (by decide) ?_
            refine zw_callV1 (M' := mX6_noWide) hB dX6_frost_42 zl_X6_174 zg_X6_noWide (zRc.of rfl rfl rfl) (s_X6_noWide (k := 6) _ (by decide) (by omega)) (fun v42 σ42 hq42 => ?_)
            obtain ⟨rfl, rfl⟩ := hq42
            refine zw_lret hB hR dX6_frost_45 rfl ?_
            rw [show w_frost n0 t0 v w = -6 by unfold w_frost; rw [if_neg (fun z => z.elim c1 (fun z => z.elim c5 (fun z => absurd c10 (Int32.not_le.mpr z)))), if_pos (Or.inr (Or.inl c29))]]
            exact zRQ.noL h (by decide) (by omega) (by decide)
          · refine zw_iload3 hB dX6_frost_32 ?_
            refine zw_sipush (x := nI 999) hB dX6_frost_33 (by decide) ?_
            refine zw_icmp_le (tgt := 46) hB dX6_frost_36 (by decide) (fun c36 => ?_) (fun c36 => ?_)
            · refine zw_iload4 hB dX6_frost_46 ?_
              refine zw_iconst (x := nI 0) hB dX6_frost_48 (by decide) ?_
              refine zw_iconst (x := nI 1) hB dX6_frost_49 (by decide) ?_
              refine zw_callS3P (M' := mX6_isIn) hB dX6_frost_50 zl_X6_52 zg_X6_isIn (s_X6_isIn _ _ _) ?_
              refine zw_if_neB (tgt := 63) hB dX6_frost_53 (by decide) (fun c53 => ?_) (fun c53 => ?_)
              · have e1 := zou_t (m := 1) (by omega) c53
                have e0 : w_frost n0 t0 v w = 0 := by
                  unfold w_frost
                  rw [if_neg (fun z => z.elim c1 (fun z => z.elim c5 (fun z => absurd c10 (Int32.not_le.mpr z)))), if_neg (fun z => z.elim c23 (fun z => z.elim c29 (fun z => absurd c36 (Int32.not_le.mpr z))))]
                  exact e1
                obtain ⟨a, b, ha, rfl, hb1, hb2, rfl, -⟩ := w_frost_0 e0
                refine zw_lconst (x := lN 0) hB dX6_frost_63 (by decide) ?_
                refine zw_lstore5 hB dX6_frost_64 (by first | rfl | assumption) ?_
                refine zw_lconst (x := lN 1) hB dX6_frost_66 (by decide) ?_
                refine zw_lstore7 hB dX6_frost_67 (by first | rfl | assumption) ?_
                refine zw_iconst (x := nI 0) hB dX6_frost_69 (by decide) ?_
                refine zw_istore9 hB dX6_frost_70 (by first | rfl | assumption) ?_
                exact hl a b rfl rfl ha hb1 hb2 e0 e1 0 (by omega)
              · refine zw_aload0 hB dX6_frost_56 ?_
                refine zw_bipush (x := -2) hB dX6_frost_57 (by decide) ?_
                refine zw_callV1 (M' := mX6_noWide) hB dX6_frost_59 zl_X6_174 zg_X6_noWide (zRc.of rfl rfl rfl) (s_X6_noWide (k := 2) _ (by decide) (by omega)) (fun v59 σ59 hq59 => ?_)
                obtain ⟨rfl, rfl⟩ := hq59
                refine zw_lret hB hR dX6_frost_62 rfl ?_
                rw [show w_frost n0 t0 v w = -2 by unfold w_frost; rw [if_neg (fun z => z.elim c1 (fun z => z.elim c5 (fun z => absurd c10 (Int32.not_le.mpr z)))), if_neg (fun z => z.elim c23 (fun z => z.elim c29 (fun z => absurd c36 (Int32.not_le.mpr z)))), zou_f (m := 1) (by omega) c53]]
                exact zRQ.noL h (by decide) (by omega) (by decide)
            · refine zw_aload0 hB dX6_frost_39 ?_
              refine zw_bipush (x := -6) hB dX6_frost_40 (by decide) ?_
              refine zw_callV1 (M' := mX6_noWide) hB dX6_frost_42 zl_X6_174 zg_X6_noWide (zRc.of rfl rfl rfl) (s_X6_noWide (k := 6) _ (by decide) (by omega)) (fun v42 σ42 hq42 => ?_)
              obtain ⟨rfl, rfl⟩ := hq42
              refine zw_lret hB hR dX6_frost_45 rfl ?_
              rw [show w_frost n0 t0 v w = -6 by unfold w_frost; rw [if_neg (fun z => z.elim c1 (fun z => z.elim c5 (fun z => absurd c10 (Int32.not_le.mpr z)))), if_pos (Or.inr (Or.inr (Int32.not_le.mp c36)))]]
              exact zRQ.noL h (by decide) (by omega) (by decide)
      · refine zw_aload0 hB dX6_frost_13 ?_
        refine zw_bipush (x := -4) hB dX6_frost_14 (by decide) ?_
        refine zw_callV1 (M' := mX6_noWide) hB dX6_frost_16 zl_X6_174 zg_X6_noWide (zRc.of rfl rfl rfl) (s_X6_noWide (k := 4) _ (by decide) (by omega)) (fun v16 σ16 hq16 => ?_)
        obtain ⟨rfl, rfl⟩ := hq16
        refine zw_lret hB hR dX6_frost_19 rfl ?_
        rw [show w_frost n0 t0 v w = -4 by unfold w_frost; rw [if_pos (Or.inr (Or.inr (Int32.not_le.mp c10)))]]
        exact zRQ.noL h (by decide) (by omega) (by decide)
