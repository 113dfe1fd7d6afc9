/-! YEARS, one after another; land's other writes -/
def zYs (r : zRw) : Nat → zRw
  | 0 => r
  | n + 1 => zYr (zYs r n)
/-- what grows of all in n years, on farm f, of farmer p -/
def zGs (r : zRw) (P : Nat) : Nat → Int32
  | 0 => nI 0
  | n + 1 => zGs r P n + zAl (zYs r n) P
def zGf (r : zRw) (P f : Nat) : Nat → Int32
  | 0 => nI 0
  | n + 1 => zGf r P f n + zgF (zYs r n) f P
def zGo (r : zRw) (p : Nat) : Nat → Int32
  | 0 => nI 0
  | n + 1 => zGo r p n + zgw (zYs r n) p
theorem zGd_Ys {r : zRw} {F P : Nat} (h : zGd r F P) (n : Nat) : zGd (zYs r n) F P := by
  induction n with
  | zero => exact h
  | succ n ih => exact zGd_Y ih
theorem zYw_0 {r : zRw} {F P : Nat} (h : zGd r F P) {z : Int32} (hz : z = 0) : zYw r (zsum (zgz r z) P) = zYr r := by
  subst hz
  rw [zYr, zsum_gz0, h.nP]

theorem s_X1_grownIn {n : Nat} {σ : zSt} {b F P : Nat} (hb : zLd b) (hg : zGd (zrow σ b) F P) {m : Nat} (hm : m < 2 ^ 31) : zSem (n + 4) mX1_grownIn [.ref b, .int (nI m)] σ (fun v τ => v = some (.int (zGs (zrow σ b) P m)) ∧ zrow τ b = zYs (zrow σ b) m ∧ zOut b σ τ) := by
  have hF6 := hg.F6
  have hP6 := hg.P6
  have hF : σ b 0 = nI F := hg.r0
  have hP : σ b 1 = nI P := hg.r1
  refine zSem.of (by decide +kernel) (Nat.le_of_ble_eq_true rfl) (fun X hB hR => ?_)
  show zW X 0 [some (.ref b), some (.int (nI m)), none, none] [] σ
  have hl : ∀ i, i ≤ m → ∀ υ : zSt, zrow υ b = zYs (zrow σ b) i → zOut b σ υ → zW X 4 [some (.ref b), some (.int (nI m)), some (.int (zGs (zrow σ b) P i)), some (.int (nI i))] [] υ := by
    refine zfor m (fun i hi ih => ?_)
    intro υ zu ou
    have gu : zGd (zrow υ b) F P := by rw [zu]; exact zGd_Ys hg i
    refine zw_iload3 hB dX1_grownIn_4 ?_
    refine zw_iload1 hB dX1_grownIn_5 ?_
    refine zw_icmp_geN (tgt := 26) hB dX1_grownIn_6 (by decide) (by omega) (by omega) (fun c6 => ?_) (fun c6 => ?_)
    · refine zw_iload2 hB dX1_grownIn_26 ?_
      refine zw_iret hB hR dX1_grownIn_27 rfl ?_
      exact ⟨by rw [show m = i by omega], by rw [zu, show m = i by omega], ou⟩
    · refine zw_aload0 hB dX1_grownIn_9 ?_
      refine zw_callV0 (M' := mX1_passYear) hB dX1_grownIn_10 zl_X1_107 zg_X1_passYear (zRc.of hb.1 rfl rfl) (s_X1_passYear hb gu) (fun v10 σ10 hq10 => ?_)
      obtain ⟨rfl, x1, x2, x3, x4, x5⟩ := hq10
      refine zw_iload2 hB dX1_grownIn_13 ?_
      refine zw_aload0 hB dX1_grownIn_14 ?_
      refine zw_getfV (x := zAl (zYs (zrow σ b) i) P) hB dX1_grownIn_15 zf_X1_110 hb.1 rfl (by rw [x2, zu]) ?_
      refine zw_iadd hB dX1_grownIn_18 ?_
      refine zw_istore2 hB dX1_grownIn_19 rfl ?_
      refine zw_iinc3 hB dX1_grownIn_20 (by first | exact zinc _ | rfl) rfl ?_
      refine zw_goto (tgt := 4) hB dX1_grownIn_23 (by decide) ?_
      exact ih c6 σ10 (by rw [x1, zu]; rfl) (ou.tr x5)
  refine zw_iconst (x := nI 0) hB dX1_grownIn_0 (by decide) ?_
  refine zw_istore2 hB dX1_grownIn_1 rfl ?_
  refine zw_iconst (x := nI 0) hB dX1_grownIn_2 (by decide) ?_
  refine zw_istore3 hB dX1_grownIn_3 rfl ?_
  exact hl 0 (by omega) σ rfl zOut.rf
theorem s_X6_yearsOn {n : Nat} {σ : zSt}  {c F P m : Nat} (hc : zLY[c]? = some (.inl 47)) (hc4 : c < 55) (hg : zGd (zro σ c) F P) (hm : m < 2 ^ 31) : zSem (n + 4) mX6_yearsOn [.ref 50, .ref c, .int (nI m)] σ (fun v τ => v = some (.int (zGs (zro σ c) P m)) ∧ zro τ c = zYs (zro σ c) m ∧ (∀ f, f < F → τ 55 f = zGf (zro σ c) P f m) ∧ (∀ p, p < P → τ 56 p = zGo (zro σ c) p m) ∧ ∀ a, a ≠ c → a ≠ 55 → a ≠ 56 → τ a = σ a) := by
  have hF6 := hg.F6
  have hP6 := hg.P6
  have hc55 : c ≠ 55 := by omega
  have hc56 : c ≠ 56 := by omega
  refine zSem.of (by decide +kernel) (Nat.le_of_ble_eq_true rfl) (fun X hB hR => ?_)
  show zW X 0 [some (.ref 50), some (.ref c), some (.int (nI m)), none, none] [] σ
  have hl3 : ∀ i, i ≤ m → ∀ υ : zSt, zro υ c = zYs (zro σ c) i → (∀ f, f < F → υ 55 f = zGf (zro σ c) P f i) → (∀ p, p < P → υ 56 p = zGo (zro σ c) p i) → (∀ a, a ≠ c → a ≠ 55 → a ≠ 56 → υ a = σ a) → zW X 47 [some (.ref 50), some (.ref c), some (.int (nI m)), some (.int (zGs (zro σ c) P i)), some (.int (nI i))] [] υ := by
    refine zfor m (fun i hi ih => ?_)
    intro υ zu fu pu ou
    have gu : zGd (zro υ c) F P := by rw [zu]; exact zGd_Ys hg i
    refine zw_iload4 hB dX6_yearsOn_47 ?_
    refine zw_iload2 hB dX6_yearsOn_49 ?_
    refine zw_icmp_geN (tgt := 68) hB dX6_yearsOn_50 (by decide) (by omega) (by omega) (fun c50 => ?_) (fun c50 => ?_)
    · refine zw_iload3 hB dX6_yearsOn_68 ?_
      refine zw_iret hB hR dX6_yearsOn_69 rfl ?_
      exact ⟨by rw [show m = i by omega], by rw [zu, show m = i by omega], by rw [show m = i by omega]; exact fu, by rw [show m = i by omega]; exact pu, ou⟩
    · refine zw_iload3 hB dX6_yearsOn_53 ?_
      refine zw_aload0 hB dX6_yearsOn_54 ?_
      refine zw_aload1 hB dX6_yearsOn_55 ?_
      refine zw_iconst (x := nI 0) hB dX6_yearsOn_56 (by decide) ?_
      refine zw_callV2 (M' := mX6_year) hB dX6_yearsOn_57 zl_X6_84 zg_X6_year (zRc.of rfl rfl rfl) (s_X6_year hc hc4 gu _) (fun v57 σ57 hq57 => ?_)
      obtain ⟨rfl, x1, x2, x3, x4⟩ := hq57
      rw [show zsum (zgz (zro υ c) (nI 0)) P = zAl (zYs (zro σ c) i) P by rw [zu]; exact zsum_gz0]
      rw [zYw_0 (z := nI 0) gu rfl] at x1
      refine zw_iadd hB dX6_yearsOn_60 ?_
      refine zw_istore3 hB dX6_yearsOn_61 rfl ?_
      refine zw_iinc4 hB dX6_yearsOn_62 (by first | exact zinc _ | rfl) rfl ?_
      refine zw_goto (tgt := 47) hB dX6_yearsOn_65 (by decide) ?_
      refine ih c50 σ57 (by rw [x1, zu]; rfl) ?_ ?_ ?_
      · intro f hf
        rw [x2 f hf, fu f hf, zu]; rfl
      · intro q hq
        rw [x3 q hq, pu q hq, zu]; rfl
      · exact fun a h1 h2 h3 => (x4 a h1 h2 h3).trans (ou a h1 h2 h3)
  have hl2 : ∀ i, i ≤ 6 → ∀ (υ : zSt) (a4 : Option Value), υ c = σ c → (∀ f, f < 6 → υ 55 f = nI 0) → (∀ p, p < i → υ 56 p = nI 0) → (∀ a, a ≠ c → a ≠ 55 → a ≠ 56 → υ a = σ a) → zW X 23 [some (.ref 50), some (.ref c), some (.int (nI m)), some (.int (nI i)), a4] [] υ := by
    refine zfor 6 (fun i hi ih => ?_)
    intro υ a4 zu fu pu ou
    refine zw_iload3 hB dX6_yearsOn_23 ?_
    refine zw_bipush (x := nI 6) hB dX6_yearsOn_24 (by decide) ?_
    refine zw_icmp_geN (tgt := 42) hB dX6_yearsOn_26 (by decide) (by omega) (by omega) (fun c26 => ?_) (fun c26 => ?_)
    · refine zw_iconst (x := nI 0) hB dX6_yearsOn_42 (by decide) ?_
      refine zw_istore3 hB dX6_yearsOn_43 rfl ?_
      refine zw_iconst (x := nI 0) hB dX6_yearsOn_44 (by decide) ?_
      refine zw_istore4 hB dX6_yearsOn_45 rfl ?_
      exact hl3 0 (by omega) υ (zro_congr zu) (fun f hf => fu f (by omega)) (fun q hq => pu q (by omega)) ou
    · refine zw_aload0 hB dX6_yearsOn_29 ?_
      refine zw_getfR hB dX6_yearsOn_30 zf_X6_25 rfl rfl ?_
      refine zw_iload3 hB dX6_yearsOn_33 ?_
      refine zw_iconst (x := nI 0) hB dX6_yearsOn_34 (by decide) ?_
      refine zw_iastN hB dX6_yearsOn_35 rfl (by omega) (by decide) ?_
      refine zw_iinc3 hB dX6_yearsOn_36 (by first | exact zinc _ | rfl) rfl ?_
      refine zw_goto (tgt := 23) hB dX6_yearsOn_39 (by decide) ?_
      refine ih c26 _ _ ((zC_n (by omega)).trans zu) (fun f hf => (congrFun (zC_n (by omega)) f).trans (fu f hf)) ?_ (fun a h1 h2 h3 => (zC_n h3).trans (ou a h1 h2 h3))
      intro q hq
      rw [zC_s]
      by_cases e : q = i
      · subst e; rw [zupd_s]
      · rw [zupd_o e]; exact pu q (by omega)
  have hl1 : ∀ i, i ≤ 6 → ∀ (υ : zSt) (a4 : Option Value), υ c = σ c → (∀ f, f < i → υ 55 f = nI 0) → (∀ a, a ≠ c → a ≠ 55 → a ≠ 56 → υ a = σ a) → zW X 2 [some (.ref 50), some (.ref c), some (.int (nI m)), some (.int (nI i)), a4] [] υ := by
    refine zfor 6 (fun i hi ih => ?_)
    intro υ a4 zu fu ou
    refine zw_iload3 hB dX6_yearsOn_2 ?_
    refine zw_bipush (x := nI 6) hB dX6_yearsOn_3 (by decide) ?_
    refine zw_icmp_geN (tgt := 21) hB dX6_yearsOn_5 (by decide) (by omega) (by omega) (fun c5 => ?_) (fun c5 => ?_)
    · refine zw_iconst (x := nI 0) hB dX6_yearsOn_21 (by decide) ?_
      refine zw_istore3 hB dX6_yearsOn_22 rfl ?_
      exact hl2 0 (by omega) υ _ zu (fun f hf => fu f (by omega)) (fun q hq => absurd hq (by omega)) ou
    · refine zw_aload0 hB dX6_yearsOn_8 ?_
      refine zw_getfR hB dX6_yearsOn_9 zf_X6_22 rfl rfl ?_
      refine zw_iload3 hB dX6_yearsOn_12 ?_
      refine zw_iconst (x := nI 0) hB dX6_yearsOn_13 (by decide) ?_
      refine zw_iastN hB dX6_yearsOn_14 rfl (by omega) (by decide) ?_
      refine zw_iinc3 hB dX6_yearsOn_15 (by first | exact zinc _ | rfl) rfl ?_
      refine zw_goto (tgt := 2) hB dX6_yearsOn_18 (by decide) ?_
      refine ih c5 _ _ ((zC_n (by omega)).trans zu) ?_ (fun a h1 h2 h3 => (zC_n h2).trans (ou a h1 h2 h3))
      intro q hq
      rw [zC_s]
      by_cases e : q = i
      · subst e; rw [zupd_s]
      · rw [zupd_o e]; exact fu q (by omega)
  refine zw_iconst (x := nI 0) hB dX6_yearsOn_0 (by decide) ?_
  refine zw_istore3 hB dX6_yearsOn_1 rfl ?_
  exact hl1 0 (by omega) σ _ rfl (fun f hf => absurd hf (by omega)) (fun _ _ _ _ => rfl)
theorem zcpy {f g : Nat → Int32} {N k : Nat} (h : k < N) (hN : N < 2 ^ 31) : va_cpy f g (nI 0).toNatClampNeg (nI 0).toNatClampNeg (nI N).toNatClampNeg k = f k := by
  rw [nI_clamp (by omega), nI_clamp (by omega)]
  exact sb_cpy0 h
theorem s_X1_become {n : Nat} {σ : zSt} {b c : Nat} (hb : zLd b) (hc : zLd c) (hcb : c + 8 ≤ b ∨ b + 8 ≤ c) : zSem (n + 1) mX1_become [.ref b, .ref c] σ (fun v τ => v = none ∧ zrow τ b = zrow σ c ∧ zOut b σ τ) := by
  have hcb := hcb
  have m01 : b ≠ b + 1 := by omega
  have m03 : b ≠ b + 3 := by omega
  have m04 : b ≠ b + 4 := by omega
  have m05 : b ≠ b + 5 := by omega
  have m06 : b ≠ b + 6 := by omega
  have m10 : b + 1 ≠ b := by omega
  have m13 : b + 1 ≠ b + 3 := by omega
  have m14 : b + 1 ≠ b + 4 := by omega
  have m15 : b + 1 ≠ b + 5 := by omega
  have m16 : b + 1 ≠ b + 6 := by omega
  have m30 : b + 3 ≠ b := by omega
  have m31 : b + 3 ≠ b + 1 := by omega
  have m34 : b + 3 ≠ b + 4 := by omega
  have m35 : b + 3 ≠ b + 5 := by omega
  have m36 : b + 3 ≠ b + 6 := by omega
  have m40 : b + 4 ≠ b := by omega
  have m41 : b + 4 ≠ b + 1 := by omega
  have m43 : b + 4 ≠ b + 3 := by omega
  have m45 : b + 4 ≠ b + 5 := by omega
  have m46 : b + 4 ≠ b + 6 := by omega
  have m50 : b + 5 ≠ b := by omega
  have m51 : b + 5 ≠ b + 1 := by omega
  have m53 : b + 5 ≠ b + 3 := by omega
  have m54 : b + 5 ≠ b + 4 := by omega
  have m56 : b + 5 ≠ b + 6 := by omega
  have m60 : b + 6 ≠ b := by omega
  have m61 : b + 6 ≠ b + 1 := by omega
  have m63 : b + 6 ≠ b + 3 := by omega
  have m64 : b + 6 ≠ b + 4 := by omega
  have m65 : b + 6 ≠ b + 5 := by omega
  have e00 : c ≠ b := by omega
  have e01 : c ≠ b + 1 := by omega
  have e03 : c ≠ b + 3 := by omega
  have e04 : c ≠ b + 4 := by omega
  have e05 : c ≠ b + 5 := by omega
  have e06 : c ≠ b + 6 := by omega
  have e10 : c + 1 ≠ b := by omega
  have e11 : c + 1 ≠ b + 1 := by omega
  have e13 : c + 1 ≠ b + 3 := by omega
  have e14 : c + 1 ≠ b + 4 := by omega
  have e15 : c + 1 ≠ b + 5 := by omega
  have e16 : c + 1 ≠ b + 6 := by omega
  have e30 : c + 3 ≠ b := by omega
  have e31 : c + 3 ≠ b + 1 := by omega
  have e33 : c + 3 ≠ b + 3 := by omega
  have e34 : c + 3 ≠ b + 4 := by omega
  have e35 : c + 3 ≠ b + 5 := by omega
  have e36 : c + 3 ≠ b + 6 := by omega
  have e40 : c + 4 ≠ b := by omega
  have e41 : c + 4 ≠ b + 1 := by omega
  have e43 : c + 4 ≠ b + 3 := by omega
  have e44 : c + 4 ≠ b + 4 := by omega
  have e45 : c + 4 ≠ b + 5 := by omega
  have e46 : c + 4 ≠ b + 6 := by omega
  have e50 : c + 5 ≠ b := by omega
  have e51 : c + 5 ≠ b + 1 := by omega
  have e53 : c + 5 ≠ b + 3 := by omega
  have e54 : c + 5 ≠ b + 4 := by omega
  have e55 : c + 5 ≠ b + 5 := by omega
  have e56 : c + 5 ≠ b + 6 := by omega
  have e60 : c + 6 ≠ b := by omega
  have e61 : c + 6 ≠ b + 1 := by omega
  have e63 : c + 6 ≠ b + 3 := by omega
  have e64 : c + 6 ≠ b + 4 := by omega
  have e65 : c + 6 ≠ b + 5 := by omega
  have e66 : c + 6 ≠ b + 6 := by omega
  refine zSem.of (by decide +kernel) (Nat.le_of_ble_eq_true rfl) (fun X hB hR => ?_)
  show zW X 0 [some (.ref b), some (.ref c)] [] σ
  refine zw_aload0 hB dX1_become_0 ?_
  refine zw_aload1 hB dX1_become_1 ?_
  refine zw_getfI hB dX1_become_2 zf_X1_37 hc.1 rfl ?_
  refine zw_putfI hB dX1_become_5 zfw_X1_37 hb.1 rfl ?_
  refine zw_aload0 hB dX1_become_8 ?_
  refine zw_aload1 hB dX1_become_9 ?_
  refine zw_getfI hB dX1_become_10 zf_X1_40 hc.1 rfl ?_
  refine zw_putfI hB dX1_become_13 zfw_X1_40 hb.1 rfl ?_
  refine zw_aload0 hB dX1_become_16 ?_
  refine zw_aload1 hB dX1_become_17 ?_
  refine zw_getfI hB dX1_become_18 zf_X1_9 hc.1 rfl ?_
  refine zw_putfI hB dX1_become_21 zfw_X1_9 hb.1 rfl ?_
  refine zw_aload0 hB dX1_become_24 ?_
  refine zw_aload1 hB dX1_become_25 ?_
  refine zw_getfI hB dX1_become_26 zf_X1_43 hc.1 rfl ?_
  refine zw_putfI hB dX1_become_29 zfw_X1_43 hb.1 rfl ?_
  refine zw_aload0 hB dX1_become_32 ?_
  refine zw_aload1 hB dX1_become_33 ?_
  refine zw_getfI hB dX1_become_34 zf_X1_46 hc.1 rfl ?_
  refine zw_putfI hB dX1_become_37 zfw_X1_46 hb.1 rfl ?_
  refine zw_aload1 hB dX1_become_40 ?_
  refine zw_getfR hB dX1_become_41 zf_X1_15 hc.1 rfl ?_
  refine zw_iconst (x := nI 0) hB dX1_become_44 (by decide) ?_
  refine zw_aload0 hB dX1_become_45 ?_
  refine zw_getfR hB dX1_become_46 zf_X1_15 hb.1 rfl ?_
  refine zw_iconst (x := nI 0) hB dX1_become_49 (by decide) ?_
  refine zw_aload0 hB dX1_become_50 ?_
  refine zw_getfR hB dX1_become_51 zf_X1_15 hb.1 rfl ?_
  refine zw_alen hB dX1_become_54 hb.2.1 ?_
  refine zw_copy hB dX1_become_55 zl_X1_49 rfl hc.2.1 hb.2.1 (by decide) (by decide) (by decide) (by decide) (by decide) ?_
  refine zw_aload1 hB dX1_become_58 ?_
  refine zw_getfR hB dX1_become_59 zf_X1_22 hc.1 rfl ?_
  refine zw_iconst (x := nI 0) hB dX1_become_62 (by decide) ?_
  refine zw_aload0 hB dX1_become_63 ?_
  refine zw_getfR hB dX1_become_64 zf_X1_22 hb.1 rfl ?_
  refine zw_iconst (x := nI 0) hB dX1_become_67 (by decide) ?_
  refine zw_aload0 hB dX1_become_68 ?_
  refine zw_getfR hB dX1_become_69 zf_X1_22 hb.1 rfl ?_
  refine zw_alen hB dX1_become_72 hb.2.2.2.1 ?_
  refine zw_copy hB dX1_become_73 zl_X1_49 rfl hc.2.2.2.1 hb.2.2.2.1 (by decide) (by decide) (by decide) (by decide) (by decide) ?_
  refine zw_aload1 hB dX1_become_76 ?_
  refine zw_getfR hB dX1_become_77 zf_X1_25 hc.1 rfl ?_
  refine zw_iconst (x := nI 0) hB dX1_become_80 (by decide) ?_
  refine zw_aload0 hB dX1_become_81 ?_
  refine zw_getfR hB dX1_become_82 zf_X1_25 hb.1 rfl ?_
  refine zw_iconst (x := nI 0) hB dX1_become_85 (by decide) ?_
  refine zw_aload0 hB dX1_become_86 ?_
  refine zw_getfR hB dX1_become_87 zf_X1_25 hb.1 rfl ?_
  refine zw_alen hB dX1_become_90 hb.2.2.2.2.1 ?_
  refine zw_copy hB dX1_become_91 zl_X1_49 rfl hc.2.2.2.2.1 hb.2.2.2.2.1 (by decide) (by decide) (by decide) (by decide) (by decide) ?_
  refine zw_aload1 hB dX1_become_94 ?_
  refine zw_getfR hB dX1_become_95 zf_X1_28 hc.1 rfl ?_
  refine zw_iconst (x := nI 0) hB dX1_become_98 (by decide) ?_
  refine zw_aload0 hB dX1_become_99 ?_
  refine zw_getfR hB dX1_become_100 zf_X1_28 hb.1 rfl ?_
  refine zw_iconst (x := nI 0) hB dX1_become_103 (by decide) ?_
  refine zw_aload0 hB dX1_become_104 ?_
  refine zw_getfR hB dX1_become_105 zf_X1_28 hb.1 rfl ?_
  refine zw_alen hB dX1_become_108 hb.2.2.2.2.2.1 ?_
  refine zw_copy hB dX1_become_109 zl_X1_49 rfl hc.2.2.2.2.2.1 hb.2.2.2.2.2.1 (by decide) (by decide) (by decide) (by decide) (by decide) ?_
  refine zw_aload1 hB dX1_become_112 ?_
  refine zw_getfR hB dX1_become_113 zf_X1_31 hc.1 rfl ?_
  refine zw_iconst (x := nI 0) hB dX1_become_116 (by decide) ?_
  refine zw_aload0 hB dX1_become_117 ?_
  refine zw_getfR hB dX1_become_118 zf_X1_31 hb.1 rfl ?_
  refine zw_iconst (x := nI 0) hB dX1_become_121 (by decide) ?_
  refine zw_aload0 hB dX1_become_122 ?_
  refine zw_getfR hB dX1_become_123 zf_X1_31 hb.1 rfl ?_
  refine zw_alen hB dX1_become_126 hb.2.2.2.2.2.2.1 ?_
  refine zw_copy hB dX1_become_127 zl_X1_49 rfl hc.2.2.2.2.2.2.1 hb.2.2.2.2.2.2.1 (by decide) (by decide) (by decide) (by decide) (by decide) ?_
  refine zw_vret hB hR dX1_become_130 rfl ?_
  refine ⟨rfl, ?_, fun a ha => ?_⟩
  · refine zrow_ext (fun k hk => ?_) (fun k hk => ?_) (fun p hp => ?_) (fun p hp => ?_) (fun p hp => ?_) (fun p hp => ?_) (fun k hk => ?_)
    · rw [zrow_f hk, zrow_f hk]
      have h5 : k = 0 ∨ k = 1 ∨ k = 2 ∨ k = 3 ∨ k = 4 := by omega
      rcases h5 with rfl | rfl | rfl | rfl | rfl <;> (simp only [zC_s, zC_n m01, zC_n m03, zC_n m04, zC_n m05, zC_n m06, zC_n m10, zC_n m13, zC_n m14, zC_n m15, zC_n m16, zC_n m30, zC_n m31, zC_n m34, zC_n m35, zC_n m36, zC_n m40, zC_n m41, zC_n m43, zC_n m45, zC_n m46, zC_n m50, zC_n m51, zC_n m53, zC_n m54, zC_n m56, zC_n m60, zC_n m61, zC_n m63, zC_n m64, zC_n m65, zC_n e00, zC_n e01, zC_n e03, zC_n e04, zC_n e05, zC_n e06, zC_n e10, zC_n e11, zC_n e13, zC_n e14, zC_n e15, zC_n e16, zC_n e30, zC_n e31, zC_n e33, zC_n e34, zC_n e35, zC_n e36, zC_n e40, zC_n e41, zC_n e43, zC_n e44, zC_n e45, zC_n e46, zC_n e50, zC_n e51, zC_n e53, zC_n e54, zC_n e55, zC_n e56, zC_n e60, zC_n e61, zC_n e63, zC_n e64, zC_n e65, zC_n e66]; simp only [zupd_s, zupd_o (show (0 : Nat) ≠ 1 by decide), zupd_o (show (0 : Nat) ≠ 2 by decide), zupd_o (show (0 : Nat) ≠ 3 by decide), zupd_o (show (0 : Nat) ≠ 4 by decide), zupd_o (show (1 : Nat) ≠ 2 by decide), zupd_o (show (1 : Nat) ≠ 3 by decide), zupd_o (show (1 : Nat) ≠ 4 by decide), zupd_o (show (2 : Nat) ≠ 3 by decide), zupd_o (show (2 : Nat) ≠ 4 by decide), zupd_o (show (3 : Nat) ≠ 4 by decide)])
    · rw [zrow_h hk, zrow_h hk]
      simp only [zC_s, zC_n m01, zC_n m03, zC_n m04, zC_n m05, zC_n m06, zC_n m10, zC_n m13, zC_n m14, zC_n m15, zC_n m16, zC_n m30, zC_n m31, zC_n m34, zC_n m35, zC_n m36, zC_n m40, zC_n m41, zC_n m43, zC_n m45, zC_n m46, zC_n m50, zC_n m51, zC_n m53, zC_n m54, zC_n m56, zC_n m60, zC_n m61, zC_n m63, zC_n m64, zC_n m65, zC_n e00, zC_n e01, zC_n e03, zC_n e04, zC_n e05, zC_n e06, zC_n e10, zC_n e11, zC_n e13, zC_n e14, zC_n e15, zC_n e16, zC_n e30, zC_n e31, zC_n e33, zC_n e34, zC_n e35, zC_n e36, zC_n e40, zC_n e41, zC_n e43, zC_n e44, zC_n e45, zC_n e46, zC_n e50, zC_n e51, zC_n e53, zC_n e54, zC_n e55, zC_n e56, zC_n e60, zC_n e61, zC_n e63, zC_n e64, zC_n e65, zC_n e66]
      exact zcpy (by omega) (by decide)
    · rw [← zrow_kd hp, ← zrow_kd hp]
      simp only [zC_s, zC_n m01, zC_n m03, zC_n m04, zC_n m05, zC_n m06, zC_n m10, zC_n m13, zC_n m14, zC_n m15, zC_n m16, zC_n m30, zC_n m31, zC_n m34, zC_n m35, zC_n m36, zC_n m40, zC_n m41, zC_n m43, zC_n m45, zC_n m46, zC_n m50, zC_n m51, zC_n m53, zC_n m54, zC_n m56, zC_n m60, zC_n m61, zC_n m63, zC_n m64, zC_n m65, zC_n e00, zC_n e01, zC_n e03, zC_n e04, zC_n e05, zC_n e06, zC_n e10, zC_n e11, zC_n e13, zC_n e14, zC_n e15, zC_n e16, zC_n e30, zC_n e31, zC_n e33, zC_n e34, zC_n e35, zC_n e36, zC_n e40, zC_n e41, zC_n e43, zC_n e44, zC_n e45, zC_n e46, zC_n e50, zC_n e51, zC_n e53, zC_n e54, zC_n e55, zC_n e56, zC_n e60, zC_n e61, zC_n e63, zC_n e64, zC_n e65, zC_n e66]
      exact zcpy (by omega) (by decide)
    · rw [← zrow_fg hp, ← zrow_fg hp]
      simp only [zC_s, zC_n m01, zC_n m03, zC_n m04, zC_n m05, zC_n m06, zC_n m10, zC_n m13, zC_n m14, zC_n m15, zC_n m16, zC_n m30, zC_n m31, zC_n m34, zC_n m35, zC_n m36, zC_n m40, zC_n m41, zC_n m43, zC_n m45, zC_n m46, zC_n m50, zC_n m51, zC_n m53, zC_n m54, zC_n m56, zC_n m60, zC_n m61, zC_n m63, zC_n m64, zC_n m65, zC_n e00, zC_n e01, zC_n e03, zC_n e04, zC_n e05, zC_n e06, zC_n e10, zC_n e11, zC_n e13, zC_n e14, zC_n e15, zC_n e16, zC_n e30, zC_n e31, zC_n e33, zC_n e34, zC_n e35, zC_n e36, zC_n e40, zC_n e41, zC_n e43, zC_n e44, zC_n e45, zC_n e46, zC_n e50, zC_n e51, zC_n e53, zC_n e54, zC_n e55, zC_n e56, zC_n e60, zC_n e61, zC_n e63, zC_n e64, zC_n e65, zC_n e66]
      exact zcpy (by omega) (by decide)
    · refine (zrow_td hp).symm.trans (Eq.trans ?_ (zrow_td hp))
      simp only [zC_s, zC_n m01, zC_n m03, zC_n m04, zC_n m05, zC_n m06, zC_n m10, zC_n m13, zC_n m14, zC_n m15, zC_n m16, zC_n m30, zC_n m31, zC_n m34, zC_n m35, zC_n m36, zC_n m40, zC_n m41, zC_n m43, zC_n m45, zC_n m46, zC_n m50, zC_n m51, zC_n m53, zC_n m54, zC_n m56, zC_n m60, zC_n m61, zC_n m63, zC_n m64, zC_n m65, zC_n e00, zC_n e01, zC_n e03, zC_n e04, zC_n e05, zC_n e06, zC_n e10, zC_n e11, zC_n e13, zC_n e14, zC_n e15, zC_n e16, zC_n e30, zC_n e31, zC_n e33, zC_n e34, zC_n e35, zC_n e36, zC_n e40, zC_n e41, zC_n e43, zC_n e44, zC_n e45, zC_n e46, zC_n e50, zC_n e51, zC_n e53, zC_n e54, zC_n e55, zC_n e56, zC_n e60, zC_n e61, zC_n e63, zC_n e64, zC_n e65, zC_n e66]
      exact zcpy (by omega) (by decide)
    · refine (zrow_at hp).symm.trans (Eq.trans ?_ (zrow_at hp))
      simp only [zC_s, zC_n m01, zC_n m03, zC_n m04, zC_n m05, zC_n m06, zC_n m10, zC_n m13, zC_n m14, zC_n m15, zC_n m16, zC_n m30, zC_n m31, zC_n m34, zC_n m35, zC_n m36, zC_n m40, zC_n m41, zC_n m43, zC_n m45, zC_n m46, zC_n m50, zC_n m51, zC_n m53, zC_n m54, zC_n m56, zC_n m60, zC_n m61, zC_n m63, zC_n m64, zC_n m65, zC_n e00, zC_n e01, zC_n e03, zC_n e04, zC_n e05, zC_n e06, zC_n e10, zC_n e11, zC_n e13, zC_n e14, zC_n e15, zC_n e16, zC_n e30, zC_n e31, zC_n e33, zC_n e34, zC_n e35, zC_n e36, zC_n e40, zC_n e41, zC_n e43, zC_n e44, zC_n e45, zC_n e46, zC_n e50, zC_n e51, zC_n e53, zC_n e54, zC_n e55, zC_n e56, zC_n e60, zC_n e61, zC_n e63, zC_n e64, zC_n e65, zC_n e66]
      exact zcpy (by omega) (by decide)
    · rw [zrow_out hk, zrow_out hk]
  · have n0 : a ≠ b := by omega
    have n1 : a ≠ b + 1 := by omega
    have n3 : a ≠ b + 3 := by omega
    have n4 : a ≠ b + 4 := by omega
    have n5 : a ≠ b + 5 := by omega
    have n6 : a ≠ b + 6 := by omega
    simp only [zC_n n0, zC_n n1, zC_n n3, zC_n n4, zC_n n5, zC_n n6]
