/-! THE REFERENCE'S CALLS: settles, free, even, feed -/
theorem zYr_hi {r : zRw} {F P : Nat} (h : zGd r F P) {i : Nat} (h1 : 3 * F ≤ i) (h2 : i < 18) : zYr r (5 + i) = r (5 + i) := by
  have hF := h.F6
  have hP := h.P6
  have g4 := zGd_4 h (r 4 + nI 1)
  have e0 : ∀ x, zNF (upd (zTn (upd r 4 (r 4 + nI 1)) (zNP r)) 3 x) = F := by
    intro x
    rw [h.nP, zNF, zupd_o (by omega), (zTn_static g4 (Nat.le_refl _)).1 0 (by omega), zupd_o (by omega), h.r0, nI_clamp (by omega)]
  unfold zYr zYw zMv
  rw [if_neg (by omega), zU_o (by rw [e0]; omega), zupd_o (by omega), h.nP]
  have e1 := zTn_ht g4 (i := P) (f := i / 3) (s := i % 3) (Nat.le_refl _) (by omega) (by omega) (fun q hq hw => by have := (g4.sf6 hq hw).1; omega)
  rw [show 5 + 3 * (i / 3) + i % 3 = 5 + i by omega] at e1
  rw [e1, zupd_o (by omega)]
theorem zFa_Fe {r : zRw} {F P : Nat} (h : zGd r F P) : zFa (zYr r) r P ↔ zFe (zYr r) r F P := by
  have hF := h.F6
  constructor
  · exact fun z => ⟨fun i hi => z.1 i (by omega), z.2⟩
  · refine fun z => ⟨fun i hi => ?_, z.2⟩
    by_cases c : i < 3 * F
    · exact z.1 i c
    · exact zYr_hi h (by omega) hi
def zmx (g : Nat → Int32) : Nat → Int32
  | 0 => nI 0
  | i + 1 => if zmx g i < g i then g i else zmx g i
theorem zgn_n {r : zRw} {F P : Nat} (h : zGd r F P) {f : Nat} (hf : f < 6) : ∃ b, b ≤ 90 ∧ zgn r f = nI b := by
  obtain ⟨a, ha, ea⟩ := h.ht (k := 3 * f) (by omega)
  obtain ⟨b, hb, eb⟩ := h.ht (k := 3 * f + 1) (by omega)
  obtain ⟨c, hc, ec⟩ := h.ht (k := 3 * f + 2) (by omega)
  rw [← Nat.add_assoc] at eb ec
  exact ⟨a + b + c, by omega, by unfold zgn; rw [ea, eb, ec, nI_add, nI_add]⟩
theorem zmx_gst {g : Nat → Int32} : ∀ i, (∀ j, j < i → ∃ b, b < 2 ^ 31 ∧ g j = nI b) → zmx g i = match zgst g i with | none => nI 0 | some q => g q := by
  intro i
  induction i with
  | zero => intro _; rfl
  | succ i ih =>
    intro hg
    have e := ih (fun j hj => hg j (by omega))
    unfold zmx zgst
    rcases zgst_in g i with ⟨rfl, n⟩ | ⟨q, hq, n⟩
    · rw [n] at e ⊢
      obtain ⟨b, hb, eb⟩ := hg 0 (by omega)
      rw [e]
      show (if nI 0 < g 0 then g 0 else nI 0) = g 0
      by_cases c : nI 0 < g 0
      · rw [if_pos c]
      · rw [if_neg c, eb]
        rw [eb] at c
        have : b = 0 := by
          apply Nat.eq_zero_of_not_pos
          intro z
          exact c (nI_lt z hb)
        rw [this]
    · rw [n] at e ⊢
      rw [e]
      by_cases c : g q < g i
      · simp only [if_pos c]
      · simp only [if_neg c]
def zmn (h : Nat → Nat) (M : Nat) : Nat → Nat
  | 0 => M
  | i + 1 => if h i < zmn h M i then h i else zmn h M i
theorem zmn_le (h : Nat → Nat) (M : Nat) : ∀ i, zmn h M i ≤ M ∧ ∀ j, j < i → zmn h M i ≤ h j := by
  intro i
  induction i with
  | zero => exact ⟨Nat.le_refl _, fun j hj => absurd hj (by omega)⟩
  | succ i ih =>
    unfold zmn
    by_cases c : h i < zmn h M i
    · rw [if_pos c]
      refine ⟨by omega, fun j hj => ?_⟩
      by_cases e : j = i
      · subst e; exact Nat.le_refl _
      · have := ih.2 j (by omega); omega
    · rw [if_neg c]
      refine ⟨ih.1, fun j hj => ?_⟩
      by_cases e : j = i
      · subst e; omega
      · exact ih.2 j (by omega)
theorem zmn_two (h : Nat → Nat) {M N : Nat} (hMN : M ≤ N) : ∀ i, zmn h M i = if M < zmn h N i then M else zmn h N i := by
  intro i
  induction i with
  | zero => unfold zmn; split <;> omega
  | succ i ih =>
    unfold zmn
    rw [ih]
    split <;> (try split) <;> (try split) <;> (try split) <;> omega
theorem zmin_n {g : Nat → Int32} {h : Nat → Nat} {M : Nat} (hM : M < 2 ^ 31) : ∀ i, (∀ j, j < i → h j < 2 ^ 31 ∧ g j = nI (h j)) → zmin g (nI M) i = nI (zmn h M i) := by
  intro i
  induction i with
  | zero => intro _; rfl
  | succ i ih =>
    intro hg
    obtain ⟨h1, h2⟩ := hg i (by omega)
    have hl := (zmn_le h M i).1
    unfold zmin zmn
    rw [ih (fun j hj => hg j (by omega)), h2]
    by_cases c : h i < zmn h M i
    · rw [if_pos (nI_lt c (by omega)), if_pos c]
    · rw [if_neg (nI_nlt (by omega) (by omega)), if_neg c]
theorem zmin_far {r : zRw} {F P : Nat} (hg : zGd r F P) : (F = 0 ∧ zmost r - zmin (zgn r) (zmost r) F = nI 0) ∨ (F ≠ 0 ∧ zmx (zgn r) F = zmost r ∧ zmin (zgn r) (nI 1000000000) F = zmin (zgn r) (zmost r) F) := by
  have hF := hg.F6
  rcases Nat.eq_zero_or_pos F with h0 | h0
  · refine Or.inl ⟨h0, ?_⟩
    subst h0
    have e : zmost r = nI 0 := by unfold zmost; rw [hg.nF]; rfl
    rw [e]
    show nI 0 - nI 0 = nI 0
    decide
  · refine Or.inr ⟨by omega, ?_, ?_⟩
    · rw [zmx_gst F (fun j hj => by obtain ⟨b, hb, eb⟩ := zgn_n hg (f := j) (by omega); exact ⟨b, by omega, eb⟩)]
      unfold zmost
      rw [hg.nF]
      cases zgst (zgn r) F <;> rfl
    · have hh : ∀ j, j < F → zgn r j = nI (zgn r j).toNatClampNeg ∧ (zgn r j).toNatClampNeg ≤ 90 := by
        intro j hj
        obtain ⟨b, hb, eb⟩ := zgn_n hg (f := j) (by omega)
        rw [eb, nI_clamp (by omega)]
        exact ⟨rfl, hb⟩
      rcases zgst_in (zgn r) F with ⟨z, -⟩ | ⟨q, hq, e⟩
      · omega
      · have em : zmost r = zgn r q := by unfold zmost; rw [hg.nF, e]
        have hq2 := hh q hq
        rw [em, hq2.1, zmin_n (h := fun j => (zgn r j).toNatClampNeg) (by omega) F (fun j hj => ⟨by have := (hh j hj).2; show (zgn r j).toNatClampNeg < _; omega, (hh j hj).1⟩), zmin_n (h := fun j => (zgn r j).toNatClampNeg) (by omega) F (fun j hj => ⟨by have := (hh j hj).2; show (zgn r j).toNatClampNeg < _; omega, (hh j hj).1⟩)]
        rw [zmn_two (fun j => (zgn r j).toNatClampNeg) (M := (zgn r q).toNatClampNeg) (N := 1000000000) (by omega) F]
        have := (zmn_le (fun j => (zgn r j).toNatClampNeg) 1000000000 F).2 q hq
        rw [if_neg]
        show ¬ (zgn r q).toNatClampNeg < _
        exact Nat.not_lt.mpr this
theorem zgn_Tl {r : zRw} {k f : Nat} : zgn (zTl r k 9 f) f = zgfd r f k := by
  unfold zgn zTl zgfd zsum
  rw [if_pos (by omega), if_pos (by omega), if_pos (by omega), show 5 + 3 * f - (5 + 3 * f) = 0 by omega, show 5 + 3 * f + 1 - (5 + 3 * f) = 1 by omega, show 5 + 3 * f + 2 - (5 + 3 * f) = 2 by omega]
  show _ = ((zsum _ 0 + _) + _) + _
  unfold zsum
  rw [nI_0, Int32.zero_add]
  rfl
theorem zgfd_n {r : zRw} {f k : Nat} : ∃ b, b ≤ 90 ∧ zgfd r f k = nI b := by
  obtain ⟨a, ha, ea⟩ := zhd_b (v := r (5 + 3 * f + 0) + zgv k 9 0) (m := 30) (by omega)
  obtain ⟨b, hb, eb⟩ := zhd_b (v := r (5 + 3 * f + 1) + zgv k 9 1) (m := 30) (by omega)
  obtain ⟨c, hc, ec⟩ := zhd_b (v := r (5 + 3 * f + 2) + zgv k 9 2) (m := 30) (by omega)
  refine ⟨a + b + c, by omega, ?_⟩
  unfold zgfd
  show ((nI 0 + zhd (r (5 + 3 * f + 0) + zgv k 9 0) (nI 30)) + zhd (r (5 + 3 * f + 1) + zgv k 9 1) (nI 30)) + zhd (r (5 + 3 * f + 2) + zgv k 9 2) (nI 30) = _
  rw [ea, eb, ec, nI_add, nI_add, nI_add, Nat.zero_add]

theorem s_X6_settles {n : Nat} {σ : zSt} {S : zS} (hS : zOk S) (h : zRW S σ)  : zSem (n + 5) mX6_settles [.ref 50] σ (zRQ (q_settles S ) σ) := by
  obtain ⟨⟨⟨F, P, hg0⟩, y0, hy0, ey0⟩, hkp, hlt, hrw⟩ := id hS
  have hnF := hg0.nF
  have hnP := hg0.nP
  have hr0 := h.1
  have hg : zGd (zro σ 51) F P := by rw [hr0]; exact hg0
  have hF6 := hg.F6
  have hP6 := hg.P6
  have hF : σ 51 0 = nI F := (zro_k (by omega)).symm.trans hg.r0
  have hP : σ 51 1 = nI P := (zro_k (by omega)).symm.trans hg.r1
  unfold q_settles
  try rw [hnF]
  try rw [hnP]
  refine zSem.of (by decide +kernel) (Nat.le_of_ble_eq_true rfl) (fun X hB hR => ?_)
  show zW X 0 [some (.ref 50), none, none] [] σ
  have hl : ∀ i, i ≤ 61 → ∀ (υ : zSt) (a2 : Option Value), zR3 σ υ → zro υ 52 = zYs (zro σ 51) i → zSy (zro σ 51) F P = zfst (fun n => zFeb (zYs (zro σ 51) (n + 1)) (zYs (zro σ 51) n) F P) i (61 - i) → zW X 13 [some (.ref 50), some (.int (nI i)), a2] [] υ := by
    refine zfor 61 (fun i hi ih => ?_)
    intro υ a2 ou zu hq
    have gu : zGd (zro υ 52) F P := by rw [zu]; exact zGd_Ys hg i
    refine zw_iload1 hB dX6_settles_13 ?_
    refine zw_bipush (x := nI 60) hB dX6_settles_14 (by decide) ?_
    refine zw_icmp_gtN (tgt := 62) hB dX6_settles_16 (by decide) (by omega) (by omega) (fun c16 => ?_) (fun c16 => ?_)
    · refine zw_bipush (x := -9) hB dX6_settles_62 (by decide) ?_
      refine zw_iret hB hR dX6_settles_64 rfl ?_
      have e9 : zSy (zro σ 51) F P = none := by rw [hq]; exact zfst_e (N := 61) (by omega)
      exact zRQ.ok4 h (by rw [← hr0, e9]; rfl) ou
    · refine zw_aload0 hB dX6_settles_19 ?_
      refine zw_getfR hB dX6_settles_20 zf_X6_13 rfl rfl ?_
      refine zw_aload0 hB dX6_settles_23 ?_
      refine zw_getfR hB dX6_settles_24 zf_X6_19 rfl rfl ?_
      refine zw_callS2 (M' := mX6_copies) hB dX6_settles_27 zl_X6_130 zg_X6_copies (s_X6_copies (c := 52) (d := 54) rfl rfl (by decide)) (fun v27 σ27 hq27 => ?_)
      obtain ⟨rfl, x1, x2⟩ := hq27
      have z24 : zro σ27 52 = zro υ 52 := zro_congr (x2 52 (by omega))
      have g24 : zGd (zro σ27 52) F P := by rw [z24]; exact gu
      refine zw_aload0 hB dX6_settles_30 ?_
      refine zw_aload0 hB dX6_settles_31 ?_
      refine zw_getfR hB dX6_settles_32 zf_X6_13 rfl rfl ?_
      refine zw_iconst (x := nI 0) hB dX6_settles_35 (by decide) ?_
      refine zw_callV2 (M' := mX6_year) hB dX6_settles_36 zl_X6_84 zg_X6_year (zRc.of rfl rfl rfl) (s_X6_year (c := 52) rfl (by omega) g24 _) (fun v36 σ36 hq36 => ?_)
      obtain ⟨rfl, y1, y2, y3, y4⟩ := hq36
      rw [zYw_0 (z := nI 0) g24 rfl] at y1
      have z2 : zro σ36 52 = zYs (zro σ 51) (i + 1) := by rw [y1, z24, zu]; rfl
      have w2 : zro σ36 54 = zYs (zro σ 51) i := by rw [zro_congr (y4 54 (by omega) (by omega) (by omega)), x1, zu]
      have g2 : zGd (zro σ36 52) F P := by rw [z2]; exact zGd_Ys hg _
      have o2 : zR3 σ σ36 := ou.tr ((zR3.d x2).tr (zR3.b y4))
      refine zw_istore2 hB dX6_settles_39 (by first | rfl | assumption) ?_
      refine zw_aload0 hB dX6_settles_40 ?_
      refine zw_getfR hB dX6_settles_41 zf_X6_13 rfl rfl ?_
      refine zw_aload0 hB dX6_settles_44 ?_
      refine zw_getfR hB dX6_settles_45 zf_X6_19 rfl rfl ?_
      refine zw_callS2 (M' := mX6_areAlike) hB dX6_settles_48 zl_X6_158 zg_X6_areAlike (s_X6_areAlike (c := 52) (d := 54) rfl rfl g2) (fun v48 σ48 hq48 => ?_)
      obtain ⟨x, hx, rfl, rfl⟩ := hq48
      rw [z2, w2, show zYs (zro σ 51) (i + 1) = zYr (zYs (zro σ 51) i) from rfl, zFa_Fe (zGd_Ys hg i)] at hx
      refine zw_if_eq (tgt := 56) hB dX6_settles_51 (by decide) (fun c51 => ?_) (fun c51 => ?_)
      · refine zw_iinc1 hB dX6_settles_56 (by first | exact zinc _ | rfl) (by first | rfl | assumption) ?_
        refine zw_goto (tgt := 13) hB dX6_settles_59 (by decide) ?_
        refine ih (by omega) _ _ o2 z2 ?_
        rw [hq, zfst_s (N := 61) (by omega), if_neg]
        rcases hx with ⟨e, _⟩ | ⟨_, e⟩
        · exact absurd (e.symm.trans c51) (by decide)
        · exact zFeb_f e
      · refine zw_iload1 hB dX6_settles_54 ?_
        refine zw_iret hB hR dX6_settles_55 rfl ?_
        have e9 : zSy (zro σ 51) F P = some i := by
          rw [hq, zfst_s (N := 61) (by omega), if_pos]
          rcases hx with ⟨_, e⟩ | ⟨e, _⟩
          · exact zFeb_t e
          · exact absurd e c51
        exact zRQ.ok4 h (by rw [← hr0, e9]; rfl) o2
  refine zw_aload0 hB dX6_settles_0 ?_
  refine zw_getfR hB dX6_settles_1 zf_X6_9 rfl rfl ?_
  refine zw_aload0 hB dX6_settles_4 ?_
  refine zw_getfR hB dX6_settles_5 zf_X6_13 rfl rfl ?_
  refine zw_callS2 (M' := mX6_copies) hB dX6_settles_8 zl_X6_130 zg_X6_copies (s_X6_copies (c := 51) (d := 52) rfl rfl (by decide)) (fun v8 σ8 hq8 => ?_)
  obtain ⟨rfl, x1, x2⟩ := hq8
  refine zw_iconst (x := nI 0) hB dX6_settles_11 (by decide) ?_
  refine zw_istore1 hB dX6_settles_12 (by first | rfl | assumption) ?_
  exact hl 0 (by omega) σ8 _ (zR3.a x2) x1 rfl
theorem s_X6_even {n : Nat} {σ : zSt} {S : zS} (hS : zOk S) (h : zRW S σ)  : zSem (n + 2) mX6_even [.ref 50] σ (zRQ (q_even S ) σ) := by
  obtain ⟨⟨⟨F, P, hg0⟩, y0, hy0, ey0⟩, hkp, hlt, hrw⟩ := id hS
  have hnF := hg0.nF
  have hnP := hg0.nP
  have hr0 := h.1
  have hg : zGd (zro σ 51) F P := by rw [hr0]; exact hg0
  have hF6 := hg.F6
  have hP6 := hg.P6
  have hF : σ 51 0 = nI F := (zro_k (by omega)).symm.trans hg.r0
  have hP : σ 51 1 = nI P := (zro_k (by omega)).symm.trans hg.r1
  unfold q_even
  try rw [hnF]
  try rw [hnP]
  refine zSem.of (by decide +kernel) (Nat.le_of_ble_eq_true rfl) (fun X hB hR => ?_)
  show zW X 0 [some (.ref 50), none, none, none] [] σ
  have hl : ∀ i, i ≤ F → ∀ u v : Int32, u = zmin (zgn (zro σ 51)) (nI 1000000000) i → v = zmx (zgn (zro σ 51)) i → zW X 7 [some (.ref 50), some (.int u), some (.int v), some (.int (nI i))] [] σ := by
    refine zfor F (fun i hi ih => ?_)
    intro u v hu hv
    refine zw_iload3 hB dX6_even_7 ?_
    refine zw_aload0 hB dX6_even_8 ?_
    refine zw_getfR hB dX6_even_9 zf_X6_9 rfl rfl ?_
    refine zw_iconst (x := nI 0) hB dX6_even_12 (by decide) ?_
    refine zw_ialdV (x := nI F) hB dX6_even_13 rfl (by omega) (by decide) (hF) ?_
    refine zw_icmp_geN (tgt := 73) hB dX6_even_14 (by decide) (by omega) (by omega) (fun c14 => ?_) (fun c14 => ?_)
    · refine zw_aload0 hB dX6_even_73 ?_
      refine zw_getfR hB dX6_even_74 zf_X6_9 rfl rfl ?_
      refine zw_iconst (x := nI 0) hB dX6_even_77 (by decide) ?_
      refine zw_ialdV (x := nI F) hB dX6_even_78 rfl (by omega) (by decide) (hF) ?_
      refine zw_if_ne (tgt := 86) hB dX6_even_79 (by decide) (fun c79 => ?_) (fun c79 => ?_)
      · refine zw_iload2 hB dX6_even_86 ?_
        refine zw_iload1 hB dX6_even_87 ?_
        refine zw_isub hB dX6_even_88 ?_
        refine zw_iret hB hR dX6_even_89 rfl ?_
        have ei : F = i := by omega
        subst ei
        rcases zmin_far hg with ⟨z, e⟩ | ⟨z, e1, e2⟩
        · exact absurd (by rw [z]; rfl) c79
        · exact zRQ.ok4 h (by rw [hu, hv, e1, e2, hr0]) zR3.rf
      · refine zw_iconst (x := nI 0) hB dX6_even_82 (by decide) ?_
        refine zw_goto (tgt := 89) hB dX6_even_83 (by decide) ?_
        refine zw_iret hB hR dX6_even_89 rfl ?_
        have ei : F = i := by omega
        subst ei
        rcases zmin_far hg with ⟨z, e⟩ | ⟨z, e1, e2⟩
        · exact zRQ.ok4 h (by rw [← hr0, e]) zR3.rf
        · exact absurd ((nI_eq (a := F) (b := 0) (by omega) (by omega)).mp c79) z
    · refine zw_aload0 hB dX6_even_17 ?_
      refine zw_getfR hB dX6_even_18 zf_X6_9 rfl rfl ?_
      refine zw_iload3 hB dX6_even_21 ?_
      refine zw_callS2P (M' := mX6_green) hB dX6_even_22 zl_X6_88 zg_X6_green (s_X6_green (c := 51) rfl (by omega)) ?_
      refine zw_iload1 hB dX6_even_25 ?_
      refine zw_icmp_ge (tgt := 40) hB dX6_even_26 (by decide) (fun c26 => ?_) (fun c26 => ?_)
      · refine zw_iload1 hB dX6_even_40 ?_
        refine zw_istore1 hB dX6_even_41 (by first | rfl | assumption) ?_
        refine zw_aload0 hB dX6_even_42 ?_
        refine zw_getfR hB dX6_even_43 zf_X6_9 rfl rfl ?_
        refine zw_iload3 hB dX6_even_46 ?_
        refine zw_callS2P (M' := mX6_green) hB dX6_even_47 zl_X6_88 zg_X6_green (s_X6_green (c := 51) rfl (by omega)) ?_
        refine zw_iload2 hB dX6_even_50 ?_
        refine zw_icmp_le (tgt := 65) hB dX6_even_51 (by decide) (fun c51 => ?_) (fun c51 => ?_)
        · refine zw_iload2 hB dX6_even_65 ?_
          refine zw_istore2 hB dX6_even_66 (by first | rfl | assumption) ?_
          refine zw_iinc3 hB dX6_even_67 (by first | exact zinc _ | rfl) (by first | rfl | assumption) ?_
          refine zw_goto (tgt := 7) hB dX6_even_70 (by decide) ?_
          refine ih c14 _ _ ?_ ?_
          · show _ = (if _ < _ then _ else _)
            rw [← hu]
            rw [if_neg (Int32.not_lt.mpr c26)]
          · show _ = (if _ < _ then _ else _)
            rw [← hv]
            rw [if_neg (Int32.not_lt.mpr c51)]
        · refine zw_aload0 hB dX6_even_54 ?_
          refine zw_getfR hB dX6_even_55 zf_X6_9 rfl rfl ?_
          refine zw_iload3 hB dX6_even_58 ?_
          refine zw_callS2P (M' := mX6_green) hB dX6_even_59 zl_X6_88 zg_X6_green (s_X6_green (c := 51) rfl (by omega)) ?_
          refine zw_goto (tgt := 66) hB dX6_even_62 (by decide) ?_
          refine zw_istore2 hB dX6_even_66 (by first | rfl | assumption) ?_
          refine zw_iinc3 hB dX6_even_67 (by first | exact zinc _ | rfl) (by first | rfl | assumption) ?_
          refine zw_goto (tgt := 7) hB dX6_even_70 (by decide) ?_
          refine ih c14 _ _ ?_ ?_
          · show _ = (if _ < _ then _ else _)
            rw [← hu]
            rw [if_neg (Int32.not_lt.mpr c26)]
          · show _ = (if _ < _ then _ else _)
            rw [← hv]
            rw [if_pos (Int32.not_le.mp c51)]
      · refine zw_aload0 hB dX6_even_29 ?_
        refine zw_getfR hB dX6_even_30 zf_X6_9 rfl rfl ?_
        refine zw_iload3 hB dX6_even_33 ?_
        refine zw_callS2P (M' := mX6_green) hB dX6_even_34 zl_X6_88 zg_X6_green (s_X6_green (c := 51) rfl (by omega)) ?_
        refine zw_goto (tgt := 41) hB dX6_even_37 (by decide) ?_
        refine zw_istore1 hB dX6_even_41 (by first | rfl | assumption) ?_
        refine zw_aload0 hB dX6_even_42 ?_
        refine zw_getfR hB dX6_even_43 zf_X6_9 rfl rfl ?_
        refine zw_iload3 hB dX6_even_46 ?_
        refine zw_callS2P (M' := mX6_green) hB dX6_even_47 zl_X6_88 zg_X6_green (s_X6_green (c := 51) rfl (by omega)) ?_
        refine zw_iload2 hB dX6_even_50 ?_
        refine zw_icmp_le (tgt := 65) hB dX6_even_51 (by decide) (fun c51 => ?_) (fun c51 => ?_)
        · refine zw_iload2 hB dX6_even_65 ?_
          refine zw_istore2 hB dX6_even_66 (by first | rfl | assumption) ?_
          refine zw_iinc3 hB dX6_even_67 (by first | exact zinc _ | rfl) (by first | rfl | assumption) ?_
          refine zw_goto (tgt := 7) hB dX6_even_70 (by decide) ?_
          refine ih c14 _ _ ?_ ?_
          · show _ = (if _ < _ then _ else _)
            rw [← hu]
            rw [if_pos (Int32.not_le.mp c26)]
          · show _ = (if _ < _ then _ else _)
            rw [← hv]
            rw [if_neg (Int32.not_lt.mpr c51)]
        · refine zw_aload0 hB dX6_even_54 ?_
          refine zw_getfR hB dX6_even_55 zf_X6_9 rfl rfl ?_
          refine zw_iload3 hB dX6_even_58 ?_
          refine zw_callS2P (M' := mX6_green) hB dX6_even_59 zl_X6_88 zg_X6_green (s_X6_green (c := 51) rfl (by omega)) ?_
          refine zw_goto (tgt := 66) hB dX6_even_62 (by decide) ?_
          refine zw_istore2 hB dX6_even_66 (by first | rfl | assumption) ?_
          refine zw_iinc3 hB dX6_even_67 (by first | exact zinc _ | rfl) (by first | rfl | assumption) ?_
          refine zw_goto (tgt := 7) hB dX6_even_70 (by decide) ?_
          refine ih c14 _ _ ?_ ?_
          · show _ = (if _ < _ then _ else _)
            rw [← hu]
            rw [if_pos (Int32.not_le.mp c26)]
          · show _ = (if _ < _ then _ else _)
            rw [← hv]
            rw [if_pos (Int32.not_le.mp c51)]
  refine zw_ldc hB dX6_even_0 zk_X6_165 ?_
  refine zw_istore1 hB dX6_even_2 (by first | rfl | assumption) ?_
  refine zw_iconst (x := nI 0) hB dX6_even_3 (by decide) ?_
  refine zw_istore2 hB dX6_even_4 (by first | rfl | assumption) ?_
  refine zw_iconst (x := nI 0) hB dX6_even_5 (by decide) ?_
  refine zw_istore3 hB dX6_even_6 (by first | rfl | assumption) ?_
  exact hl 0 (by omega) _ _ (show (1000000000 : Int32) = nI 1000000000 by decide) rfl
theorem s_X6_free {n : Nat} {σ : zSt} {S : zS} (hS : zOk S) (h : zRW S σ) (w : Int32) : zSem (n + 3) mX6_free [.ref 50, .int w] σ (zRQ (q_free S w) σ) := by
  obtain ⟨⟨⟨F, P, hg0⟩, y0, hy0, ey0⟩, hkp, hlt, hrw⟩ := id hS
  have hnF := hg0.nF
  have hnP := hg0.nP
  have hr0 := h.1
  have hg : zGd (zro σ 51) F P := by rw [hr0]; exact hg0
  have hF6 := hg.F6
  have hP6 := hg.P6
  have hF : σ 51 0 = nI F := (zro_k (by omega)).symm.trans hg.r0
  have hP : σ 51 1 = nI P := (zro_k (by omega)).symm.trans hg.r1
  unfold q_free
  try rw [hnF]
  try rw [hnP]
  refine zSem.of (by decide +kernel) (Nat.le_of_ble_eq_true rfl) (fun X hB hR => ?_)
  show zW X 0 [some (.ref 50), some (.int w), none, none] [] σ
  have e0 : zou w (nI 2) = 0 → True := fun _ => trivial
  have hl0 : w = nI 0 → ∀ i, i ≤ F → ∀ v : Int32, v = zset (fun f => zfr (zro σ 51) f) i → zW X 20 [some (.ref 50), some (.int (nI 0)), some (.int v), some (.int (nI i))] [] σ := by
    rintro rfl
    refine zfor F (fun i hi ih => ?_)
    intro v hv
    refine zw_iload3 hB dX6_free_20 ?_
    refine zw_aload0 hB dX6_free_21 ?_
    refine zw_getfR hB dX6_free_22 zf_X6_9 rfl rfl ?_
    refine zw_iconst (x := nI 0) hB dX6_free_25 (by decide) ?_
    refine zw_ialdV (x := nI F) hB dX6_free_26 rfl (by omega) (by decide) (hF) ?_
    refine zw_icmp_geN (tgt := 61) hB dX6_free_27 (by decide) (by omega) (by omega) (fun c27 => ?_) (fun c27 => ?_)
    · refine zw_iconst (x := nI 0) hB dX6_free_61 (by decide) ?_
      refine zw_istore3 hB dX6_free_62 (by first | rfl | assumption) ?_
      refine zw_iload3 hB dX6_free_63 ?_
      refine zw_aload0 hB dX6_free_64 ?_
      refine zw_getfR hB dX6_free_65 zf_X6_9 rfl rfl ?_
      refine zw_iconst (x := nI 1) hB dX6_free_68 (by decide) ?_
      refine zw_ialdV (x := nI P) hB dX6_free_69 rfl (by omega) (by decide) (hP) ?_
      refine zw_icmp_geN (tgt := 129) hB dX6_free_70 (by decide) (by omega) (by omega) (fun c70 => ?_) (fun c70 => ?_)
      · refine zw_iload2 hB dX6_free_129 ?_
        refine zw_iret hB hR dX6_free_130 rfl ?_
        have eiF : i = F := by omega
        exact zRQ.ok h (zou_in (by omega) (by omega)) (by rw [if_pos rfl, ← hr0, hv]; rw [eiF]; rfl) ⟨rfl, rfl, rfl⟩ (fun _ _ => rfl)
      · refine zw_iload1 hB dX6_free_73 ?_
        refine zw_if_le (tgt := 129) hB dX6_free_74 (by decide) (fun c74 => ?_) (fun c74 => by first | exact absurd (by decide) c74 | exact absurd c74 (by decide) | omega)
        refine zw_iload2 hB dX6_free_129 ?_
        refine zw_iret hB hR dX6_free_130 rfl ?_
        have eiF : i = F := by omega
        exact zRQ.ok h (zou_in (by omega) (by omega)) (by rw [if_pos rfl, ← hr0, hv]; rw [eiF]; rfl) ⟨rfl, rfl, rfl⟩ (fun _ _ => rfl)
    · refine zw_iload1 hB dX6_free_30 ?_
      refine zw_if_ne (tgt := 61) hB dX6_free_31 (by decide) (fun c31 => by first | exact absurd c31 (by decide) | exact absurd (by decide) c31 | omega) (fun c31 => ?_)
      refine zw_iload2 hB dX6_free_34 ?_
      refine zw_aload0 hB dX6_free_35 ?_
      refine zw_getfR hB dX6_free_36 zf_X6_9 rfl rfl ?_
      refine zw_iload3 hB dX6_free_39 ?_
      refine zw_callS2P (M' := mX6_farmerAt) hB dX6_free_40 zl_X6_80 zg_X6_farmerAt (s_X6_farmerAt (c := 51) rfl hP hP6 _) ?_
      refine zw_if_ge (tgt := 52) hB dX6_free_43 (by decide) (fun c43 => ?_) (fun c43 => ?_)
      · refine zw_iconst (x := nI 0) hB dX6_free_52 (by decide) ?_
        refine zw_ior hB dX6_free_53 ?_
        refine zw_istore2 hB dX6_free_54 (by first | rfl | assumption) ?_
        refine zw_iinc3 hB dX6_free_55 (by first | exact zinc _ | rfl) (by first | rfl | assumption) ?_
        refine zw_goto (tgt := 20) hB dX6_free_58 (by decide) ?_
        refine ih c27 _ ?_
        rw [hv, zset, if_neg (fun z => Int32.not_lt.mpr c43 ((zten_fr hg (by omega)).mpr z))]
      · refine zw_iconst (x := nI 1) hB dX6_free_46 (by decide) ?_
        refine zw_iload3 hB dX6_free_47 ?_
        refine zw_ishl hB dX6_free_48 ?_
        refine zw_goto (tgt := 53) hB dX6_free_49 (by decide) ?_
        refine zw_ior hB dX6_free_53 ?_
        refine zw_istore2 hB dX6_free_54 (by first | rfl | assumption) ?_
        refine zw_iinc3 hB dX6_free_55 (by first | exact zinc _ | rfl) (by first | rfl | assumption) ?_
        refine zw_goto (tgt := 20) hB dX6_free_58 (by decide) ?_
        refine ih c27 _ ?_
        rw [hv, zset, if_pos ((zten_fr hg (by omega)).mp (Int32.not_le.mp c43))]
  have hl1 : w = nI 1 → ∀ i, i ≤ P → ∀ v : Int32, v = zset (fun p => decide (zat (zro σ 51) p = -9)) i → zW X 63 [some (.ref 50), some (.int (nI 1)), some (.int v), some (.int (nI i))] [] σ := by
    rintro rfl
    refine zfor P (fun i hi ih => ?_)
    intro v hv
    refine zw_iload3 hB dX6_free_63 ?_
    refine zw_aload0 hB dX6_free_64 ?_
    refine zw_getfR hB dX6_free_65 zf_X6_9 rfl rfl ?_
    refine zw_iconst (x := nI 1) hB dX6_free_68 (by decide) ?_
    refine zw_ialdV (x := nI P) hB dX6_free_69 rfl (by omega) (by decide) (hP) ?_
    refine zw_icmp_geN (tgt := 129) hB dX6_free_70 (by decide) (by omega) (by omega) (fun c70 => ?_) (fun c70 => ?_)
    · refine zw_iload2 hB dX6_free_129 ?_
      refine zw_iret hB hR dX6_free_130 rfl ?_
      have ei : i = P := by omega
      subst ei
      exact zRQ.ok h (zou_in (by omega) (by omega)) (by rw [if_neg (by decide), if_pos rfl, ← hr0, hv]) ⟨rfl, rfl, rfl⟩ (fun _ _ => rfl)
    · refine zw_iload1 hB dX6_free_73 ?_
      refine zw_if_le (tgt := 129) hB dX6_free_74 (by decide) (fun c74 => by first | exact absurd c74 (by decide) | exact absurd (by decide) c74 | omega) (fun c74 => ?_)
      refine zw_iload2 hB dX6_free_77 ?_
      refine zw_iload1 hB dX6_free_78 ?_
      refine zw_iconst (x := nI 1) hB dX6_free_79 (by decide) ?_
      refine zw_icmp_ne (tgt := 99) hB dX6_free_80 (by decide) (fun c80 => by first | exact absurd c80 (by decide) | exact absurd (by decide) c80 | omega) (fun c80 => ?_)
      refine zw_aload0 hB dX6_free_83 ?_
      refine zw_getfR hB dX6_free_84 zf_X6_9 rfl rfl ?_
      refine zw_iload3 hB dX6_free_87 ?_
      refine zw_iconst (x := nI 3) hB dX6_free_88 (by decide) ?_
      refine zw_callS2P (M' := mX6_of) hB dX6_free_89 zl_X6_56 zg_X6_of (s_X6_of) ?_
      refine zw_ialdV (x := zat (zro σ 51) i) hB dX6_free_92 rfl (by omega) (by decide) (zro_at (by omega)) ?_
      refine zw_if_ge (tgt := 120) hB dX6_free_93 (by decide) (fun c93 => ?_) (fun c93 => ?_)
      · refine zw_iconst (x := nI 0) hB dX6_free_120 (by decide) ?_
        refine zw_ior hB dX6_free_121 ?_
        refine zw_istore2 hB dX6_free_122 (by first | rfl | assumption) ?_
        refine zw_iinc3 hB dX6_free_123 (by first | exact zinc _ | rfl) (by first | rfl | assumption) ?_
        refine zw_goto (tgt := 63) hB dX6_free_126 (by decide) ?_
        refine ih c70 _ ?_
        rw [hv, zset, if_neg (fun z => by rw [decide_eq_true_eq] at z; rw [z] at c93; exact absurd c93 (by decide))]
      · refine zw_goto (tgt := 114) hB dX6_free_96 (by decide) ?_
        refine zw_iconst (x := nI 1) hB dX6_free_114 (by decide) ?_
        refine zw_iload3 hB dX6_free_115 ?_
        refine zw_ishl hB dX6_free_116 ?_
        refine zw_goto (tgt := 121) hB dX6_free_117 (by decide) ?_
        refine zw_ior hB dX6_free_121 ?_
        refine zw_istore2 hB dX6_free_122 (by first | rfl | assumption) ?_
        refine zw_iinc3 hB dX6_free_123 (by first | exact zinc _ | rfl) (by first | rfl | assumption) ?_
        refine zw_goto (tgt := 63) hB dX6_free_126 (by decide) ?_
        refine ih c70 _ ?_
        rw [hv, zset, if_pos (by rw [decide_eq_true_eq]; rcases hg.seat c70 with ⟨e, _⟩ | ⟨_, _, e⟩; exact e; exact absurd (Int32.not_lt.mp e) c93)]
  have hl2 : w = nI 2 → ∀ i, i ≤ P → ∀ v : Int32, v = zset (fun p => decide (¬ ztd (zro σ 51) p < nI 10)) i → zW X 63 [some (.ref 50), some (.int (nI 2)), some (.int v), some (.int (nI i))] [] σ := by
    rintro rfl
    refine zfor P (fun i hi ih => ?_)
    intro v hv
    refine zw_iload3 hB dX6_free_63 ?_
    refine zw_aload0 hB dX6_free_64 ?_
    refine zw_getfR hB dX6_free_65 zf_X6_9 rfl rfl ?_
    refine zw_iconst (x := nI 1) hB dX6_free_68 (by decide) ?_
    refine zw_ialdV (x := nI P) hB dX6_free_69 rfl (by omega) (by decide) (hP) ?_
    refine zw_icmp_geN (tgt := 129) hB dX6_free_70 (by decide) (by omega) (by omega) (fun c70 => ?_) (fun c70 => ?_)
    · refine zw_iload2 hB dX6_free_129 ?_
      refine zw_iret hB hR dX6_free_130 rfl ?_
      have ei : i = P := by omega
      subst ei
      exact zRQ.ok h (zou_in (by omega) (by omega)) (by rw [if_neg (by decide), if_neg (by decide), ← hr0, hv]) ⟨rfl, rfl, rfl⟩ (fun _ _ => rfl)
    · refine zw_iload1 hB dX6_free_73 ?_
      refine zw_if_le (tgt := 129) hB dX6_free_74 (by decide) (fun c74 => by first | exact absurd c74 (by decide) | exact absurd (by decide) c74 | omega) (fun c74 => ?_)
      refine zw_iload2 hB dX6_free_77 ?_
      refine zw_iload1 hB dX6_free_78 ?_
      refine zw_iconst (x := nI 1) hB dX6_free_79 (by decide) ?_
      refine zw_icmp_ne (tgt := 99) hB dX6_free_80 (by decide) (fun c80 => ?_) (fun c80 => by first | exact absurd (by decide) c80 | exact absurd c80 (by decide) | omega)
      refine zw_aload0 hB dX6_free_99 ?_
      refine zw_getfR hB dX6_free_100 zf_X6_9 rfl rfl ?_
      refine zw_iload3 hB dX6_free_103 ?_
      refine zw_iconst (x := nI 2) hB dX6_free_104 (by decide) ?_
      refine zw_callS2P (M' := mX6_of) hB dX6_free_105 zl_X6_56 zg_X6_of (s_X6_of) ?_
      refine zw_ialdV (x := ztd (zro σ 51) i) hB dX6_free_108 rfl (by omega) (by decide) (zro_td (by omega)) ?_
      refine zw_bipush (x := nI 10) hB dX6_free_109 (by decide) ?_
      refine zw_icmp_lt (tgt := 120) hB dX6_free_111 (by decide) (fun c111 => ?_) (fun c111 => ?_)
      · refine zw_iconst (x := nI 0) hB dX6_free_120 (by decide) ?_
        refine zw_ior hB dX6_free_121 ?_
        refine zw_istore2 hB dX6_free_122 (by first | rfl | assumption) ?_
        refine zw_iinc3 hB dX6_free_123 (by first | exact zinc _ | rfl) (by first | rfl | assumption) ?_
        refine zw_goto (tgt := 63) hB dX6_free_126 (by decide) ?_
        refine ih c70 _ ?_
        rw [hv, zset, if_neg (fun z => by rw [decide_eq_true_eq] at z; exact z c111)]
      · refine zw_iconst (x := nI 1) hB dX6_free_114 (by decide) ?_
        refine zw_iload3 hB dX6_free_115 ?_
        refine zw_ishl hB dX6_free_116 ?_
        refine zw_goto (tgt := 121) hB dX6_free_117 (by decide) ?_
        refine zw_ior hB dX6_free_121 ?_
        refine zw_istore2 hB dX6_free_122 (by first | rfl | assumption) ?_
        refine zw_iinc3 hB dX6_free_123 (by first | exact zinc _ | rfl) (by first | rfl | assumption) ?_
        refine zw_goto (tgt := 63) hB dX6_free_126 (by decide) ?_
        refine ih c70 _ ?_
        rw [hv, zset, if_pos (by rw [decide_eq_true_eq]; exact c111)]
  refine zw_iload1 hB dX6_free_0 ?_
  refine zw_iconst (x := nI 0) hB dX6_free_1 (by decide) ?_
  refine zw_iconst (x := nI 2) hB dX6_free_2 (by decide) ?_
  refine zw_callS3P (M' := mX6_isIn) hB dX6_free_3 zl_X6_52 zg_X6_isIn (s_X6_isIn _ _ _) ?_
  refine zw_if_neB (tgt := 16) hB dX6_free_6 (by decide) (fun c6 => ?_) (fun c6 => ?_)
  · obtain ⟨j, hj, rfl⟩ := zIn_j (n := 3) (by omega) ((zis (by omega)).mp c6)
    have j3 : j = 0 ∨ j = 1 ∨ j = 2 := by omega
    rcases j3 with rfl | rfl | rfl
    · refine zw_iconst (x := nI 0) hB dX6_free_16 (by decide) ?_
      refine zw_istore2 hB dX6_free_17 (by first | rfl | assumption) ?_
      refine zw_iconst (x := nI 0) hB dX6_free_18 (by decide) ?_
      refine zw_istore3 hB dX6_free_19 (by first | rfl | assumption) ?_
      exact hl0 rfl 0 (by omega) _ rfl
    · refine zw_iconst (x := nI 0) hB dX6_free_16 (by decide) ?_
      refine zw_istore2 hB dX6_free_17 (by first | rfl | assumption) ?_
      refine zw_iconst (x := nI 0) hB dX6_free_18 (by decide) ?_
      refine zw_istore3 hB dX6_free_19 (by first | rfl | assumption) ?_
      refine zw_iload3 hB dX6_free_20 ?_
      refine zw_aload0 hB dX6_free_21 ?_
      refine zw_getfR hB dX6_free_22 zf_X6_9 rfl rfl ?_
      refine zw_iconst (x := nI 0) hB dX6_free_25 (by decide) ?_
      refine zw_ialdV (x := nI F) hB dX6_free_26 rfl (by omega) (by decide) (hF) ?_
      refine zw_icmp_geN (tgt := 61) hB dX6_free_27 (by decide) (by omega) (by omega) (fun c27 => ?_) (fun c27 => ?_)
      · refine zw_iconst (x := nI 0) hB dX6_free_61 (by decide) ?_
        refine zw_istore3 hB dX6_free_62 (by first | rfl | assumption) ?_
        exact hl1 rfl 0 (by omega) _ rfl
      · refine zw_iload1 hB dX6_free_30 ?_
        refine zw_if_ne (tgt := 61) hB dX6_free_31 (by decide) (fun c31 => ?_) (fun c31 => by first | exact absurd (by decide) c31 | exact absurd c31 (by decide) | omega)
        refine zw_iconst (x := nI 0) hB dX6_free_61 (by decide) ?_
        refine zw_istore3 hB dX6_free_62 (by first | rfl | assumption) ?_
        exact hl1 rfl 0 (by omega) _ rfl
    · refine zw_iconst (x := nI 0) hB dX6_free_16 (by decide) ?_
      refine zw_istore2 hB dX6_free_17 (by first | rfl | assumption) ?_
      refine zw_iconst (x := nI 0) hB dX6_free_18 (by decide) ?_
      refine zw_istore3 hB dX6_free_19 (by first | rfl | assumption) ?_
      refine zw_iload3 hB dX6_free_20 ?_
      refine zw_aload0 hB dX6_free_21 ?_
      refine zw_getfR hB dX6_free_22 zf_X6_9 rfl rfl ?_
      refine zw_iconst (x := nI 0) hB dX6_free_25 (by decide) ?_
      refine zw_ialdV (x := nI F) hB dX6_free_26 rfl (by omega) (by decide) (hF) ?_
      refine zw_icmp_geN (tgt := 61) hB dX6_free_27 (by decide) (by omega) (by omega) (fun c27 => ?_) (fun c27 => ?_)
      · refine zw_iconst (x := nI 0) hB dX6_free_61 (by decide) ?_
        refine zw_istore3 hB dX6_free_62 (by first | rfl | assumption) ?_
        exact hl2 rfl 0 (by omega) _ rfl
      · refine zw_iload1 hB dX6_free_30 ?_
        refine zw_if_ne (tgt := 61) hB dX6_free_31 (by decide) (fun c31 => ?_) (fun c31 => by first | exact absurd (by decide) c31 | exact absurd c31 (by decide) | omega)
        refine zw_iconst (x := nI 0) hB dX6_free_61 (by decide) ?_
        refine zw_istore3 hB dX6_free_62 (by first | rfl | assumption) ?_
        exact hl2 rfl 0 (by omega) _ rfl
  · refine zw_aload0 hB dX6_free_9 ?_
    refine zw_bipush (x := -2) hB dX6_free_10 (by decide) ?_
    refine zw_callV1 (M' := mX6_no) hB dX6_free_12 zl_X6_48 zg_X6_no (zRc.of rfl rfl rfl) (s_X6_no (k := 2) _ (by decide) (by omega)) (fun v12 σ12 hq12 => ?_)
    obtain ⟨rfl, rfl⟩ := hq12
    refine zw_iret hB hR dX6_free_15 rfl ?_
    rw [zou_f (m := 2) (by omega) c6]
    exact zRQ.no h (by decide) (by omega) (by decide)
theorem s_X6_feed {n : Nat} {σ : zSt} {S : zS} (hS : zOk S) (h : zRW S σ) (f0 w : Int32) : zSem (n + 3) mX6_feed [.ref 50, .int f0, .int w] σ (zRQ (q_feed S f0 w) σ) := by
  obtain ⟨⟨⟨F, P, hg0⟩, y0, hy0, ey0⟩, hkp, hlt, hrw⟩ := id hS
  have hnF := hg0.nF
  have hnP := hg0.nP
  have hr0 := h.1
  have hg : zGd (zro σ 51) F P := by rw [hr0]; exact hg0
  have hF6 := hg.F6
  have hP6 := hg.P6
  have hF : σ 51 0 = nI F := (zro_k (by omega)).symm.trans hg.r0
  have hP : σ 51 1 = nI P := (zro_k (by omega)).symm.trans hg.r1
  unfold q_feed
  try rw [hnF]
  try rw [hnP]
  refine zSem.of (by decide +kernel) (Nat.le_of_ble_eq_true rfl) (fun X hB hR => ?_)
  show zW X 0 [some (.ref 50), some (.int f0), some (.int w), none, none, none] [] σ
  have hl : ∀ j, f0 = nI j → j < F → zfo (znb (zIn (nI j) F)) (zou w (nI 1)) (nI 0) = 0 → ∀ i, i ≤ 6 → ∀ (υ : zSt) (u v : Int32), zR3 σ υ → (i = 0 ∧ u = nI 0 ∧ v = -1 ∨ ∃ q, i = q + 1 ∧ u = nI (zbk (zgfd (zro σ 51) j) q) ∧ v = (zgfd (zro σ 51) j) (zbk (zgfd (zro σ 51) j) q)) → zW X 38 [some (.ref 50), some (.int (nI j)), some (.int w), some (.int u), some (.int v), some (.int (nI i))] [] υ := by
    rintro j rfl hj e0
    refine zfor 6 (fun i hi ih => ?_)
    intro υ u v ou hv
    rcases hv with ⟨rfl, eu, ev⟩ | ⟨i, rfl, eu, ev⟩
    · have hbk : True := trivial
      refine zw_iload5 hB dX6_feed_38 ?_
      refine zw_bipush (x := nI 6) hB dX6_feed_40 (by decide) ?_
      refine zw_icmp_geN (tgt := 103) hB dX6_feed_42 (by decide) (by omega) (by omega) (fun c42 => ?_) (fun c42 => ?_)
      · refine zw_iload2 hB dX6_feed_103 ?_
        refine zw_if_ne (tgt := 111) hB dX6_feed_104 (by decide) (fun c104 => ?_) (fun c104 => ?_)
        · refine zw_iload4 hB dX6_feed_111 ?_
          refine zw_iret hB hR dX6_feed_113 rfl ?_
          exact absurd c42 (by omega)
        · refine zw_iload3 hB dX6_feed_107 ?_
          refine zw_goto (tgt := 113) hB dX6_feed_108 (by decide) ?_
          refine zw_iret hB hR dX6_feed_113 rfl ?_
          exact absurd c42 (by omega)
      · refine zw_aload0 hB dX6_feed_45 ?_
        refine zw_getfR hB dX6_feed_46 zf_X6_9 rfl rfl ?_
        refine zw_aload0 hB dX6_feed_49 ?_
        refine zw_getfR hB dX6_feed_50 zf_X6_13 rfl rfl ?_
        refine zw_callS2 (M' := mX6_copies) hB dX6_feed_53 zl_X6_130 zg_X6_copies (s_X6_copies (c := 51) (d := 52) rfl rfl (by decide)) (fun v53 σ53 hq53 => ?_)
        obtain ⟨rfl, x1, x2⟩ := hq53
        refine zw_aload0 hB dX6_feed_56 ?_
        refine zw_getfR hB dX6_feed_57 zf_X6_13 rfl rfl ?_
        refine zw_iload5 hB dX6_feed_60 ?_
        refine zw_bipush (x := nI 9) hB dX6_feed_62 (by decide) ?_
        refine zw_iload1 hB dX6_feed_64 ?_
        refine zw_callS4 (M' := mX6_changes) hB dX6_feed_65 zl_X6_74 zg_X6_changes (s_X6_changes (c := 52) rfl (by omega) (by omega) (by omega) (fun q hq => by rw [← zro_k (σ := σ53) (c := 52) (by omega), x1, ou.ro]; exact hg.ht hq)) (fun v65 σ65 hq65 => ?_)
        obtain ⟨rfl, y1, y2⟩ := hq65
        have z65 : zgn (zro σ65 52) j = zgfd (zro σ 51) j (0) := by rw [y1, x1, ou.ro, zgn_Tl]
        have o5 := ou.tr ((zR3.a x2).tr (zR3.a y2))
        refine zw_aload0 hB dX6_feed_68 ?_
        refine zw_getfR hB dX6_feed_69 zf_X6_13 rfl rfl ?_
        refine zw_iload1 hB dX6_feed_72 ?_
        refine zw_callS2P (M' := mX6_green) hB dX6_feed_73 zl_X6_88 zg_X6_green (s_X6_green (c := 52) rfl (by omega)) ?_
        rw [z65]
        refine zw_iload4 hB dX6_feed_76 ?_
        refine zw_icmp_gt (tgt := 84) hB dX6_feed_78 (by decide) (fun c78 => ?_) (fun c78 => ?_)
        · refine zw_iload5 hB dX6_feed_84 ?_
          refine zw_istore3 hB dX6_feed_86 (by first | rfl | assumption) ?_
          refine zw_aload0 hB dX6_feed_87 ?_
          refine zw_getfR hB dX6_feed_88 zf_X6_13 rfl rfl ?_
          refine zw_iload1 hB dX6_feed_91 ?_
          refine zw_callS2P (M' := mX6_green) hB dX6_feed_92 zl_X6_88 zg_X6_green (s_X6_green (c := 52) rfl (by omega)) ?_
          rw [z65]
          refine zw_istore4 hB dX6_feed_95 (by first | rfl | assumption) ?_
          refine zw_iinc5 hB dX6_feed_97 (by first | exact zinc _ | rfl) (by first | rfl | assumption) ?_
          refine zw_goto (tgt := 38) hB dX6_feed_100 (by decide) ?_
          refine ih c42 _ _ _ o5 (Or.inr ⟨0, rfl, rfl, rfl⟩)
        · refine zw_goto (tgt := 97) hB dX6_feed_81 (by decide) ?_
          refine zw_iinc5 hB dX6_feed_97 (by first | exact zinc _ | rfl) (by first | rfl | assumption) ?_
          refine zw_goto (tgt := 38) hB dX6_feed_100 (by decide) ?_
          exfalso
          subst ev
          obtain ⟨b, hb, eb⟩ := zgfd_n (r := zro σ 51) (f := j) (k := 0)
          rw [eb] at c78
          exact c78 (Int32.lt_of_lt_of_le (show (-1 : Int32) < 0 by decide) (Int32.not_lt.mp (nI_pos (by omega))))
    · have hbk : True := trivial
      refine zw_iload5 hB dX6_feed_38 ?_
      refine zw_bipush (x := nI 6) hB dX6_feed_40 (by decide) ?_
      refine zw_icmp_geN (tgt := 103) hB dX6_feed_42 (by decide) (by omega) (by omega) (fun c42 => ?_) (fun c42 => ?_)
      · refine zw_iload2 hB dX6_feed_103 ?_
        refine zw_if_ne (tgt := 111) hB dX6_feed_104 (by decide) (fun c104 => ?_) (fun c104 => ?_)
        · refine zw_iload4 hB dX6_feed_111 ?_
          refine zw_iret hB hR dX6_feed_113 rfl ?_
          obtain rfl : i = 5 := by omega
          refine zRQ.ok3 h e0 ?_ ou
          rw [if_neg (show ¬ w = nI 0 from c104), nI_clamp (by omega), ← hr0, ev]
        · refine zw_iload3 hB dX6_feed_107 ?_
          refine zw_goto (tgt := 113) hB dX6_feed_108 (by decide) ?_
          refine zw_iret hB hR dX6_feed_113 rfl ?_
          obtain rfl : i = 5 := by omega
          refine zRQ.ok3 h e0 ?_ ou
          rw [if_pos (show w = nI 0 from c104), nI_clamp (by omega), ← hr0, eu]
      · refine zw_aload0 hB dX6_feed_45 ?_
        refine zw_getfR hB dX6_feed_46 zf_X6_9 rfl rfl ?_
        refine zw_aload0 hB dX6_feed_49 ?_
        refine zw_getfR hB dX6_feed_50 zf_X6_13 rfl rfl ?_
        refine zw_callS2 (M' := mX6_copies) hB dX6_feed_53 zl_X6_130 zg_X6_copies (s_X6_copies (c := 51) (d := 52) rfl rfl (by decide)) (fun v53 σ53 hq53 => ?_)
        obtain ⟨rfl, x1, x2⟩ := hq53
        refine zw_aload0 hB dX6_feed_56 ?_
        refine zw_getfR hB dX6_feed_57 zf_X6_13 rfl rfl ?_
        refine zw_iload5 hB dX6_feed_60 ?_
        refine zw_bipush (x := nI 9) hB dX6_feed_62 (by decide) ?_
        refine zw_iload1 hB dX6_feed_64 ?_
        refine zw_callS4 (M' := mX6_changes) hB dX6_feed_65 zl_X6_74 zg_X6_changes (s_X6_changes (c := 52) rfl (by omega) (by omega) (by omega) (fun q hq => by rw [← zro_k (σ := σ53) (c := 52) (by omega), x1, ou.ro]; exact hg.ht hq)) (fun v65 σ65 hq65 => ?_)
        obtain ⟨rfl, y1, y2⟩ := hq65
        have z65 : zgn (zro σ65 52) j = zgfd (zro σ 51) j (i + 1) := by rw [y1, x1, ou.ro, zgn_Tl]
        have o5 := ou.tr ((zR3.a x2).tr (zR3.a y2))
        refine zw_aload0 hB dX6_feed_68 ?_
        refine zw_getfR hB dX6_feed_69 zf_X6_13 rfl rfl ?_
        refine zw_iload1 hB dX6_feed_72 ?_
        refine zw_callS2P (M' := mX6_green) hB dX6_feed_73 zl_X6_88 zg_X6_green (s_X6_green (c := 52) rfl (by omega)) ?_
        rw [z65]
        refine zw_iload4 hB dX6_feed_76 ?_
        refine zw_icmp_gt (tgt := 84) hB dX6_feed_78 (by decide) (fun c78 => ?_) (fun c78 => ?_)
        · refine zw_iload5 hB dX6_feed_84 ?_
          refine zw_istore3 hB dX6_feed_86 (by first | rfl | assumption) ?_
          refine zw_aload0 hB dX6_feed_87 ?_
          refine zw_getfR hB dX6_feed_88 zf_X6_13 rfl rfl ?_
          refine zw_iload1 hB dX6_feed_91 ?_
          refine zw_callS2P (M' := mX6_green) hB dX6_feed_92 zl_X6_88 zg_X6_green (s_X6_green (c := 52) rfl (by omega)) ?_
          rw [z65]
          refine zw_istore4 hB dX6_feed_95 (by first | rfl | assumption) ?_
          refine zw_iinc5 hB dX6_feed_97 (by first | exact zinc _ | rfl) (by first | rfl | assumption) ?_
          refine zw_goto (tgt := 38) hB dX6_feed_100 (by decide) ?_
          refine ih c42 _ _ _ o5 (Or.inr ⟨i + 1, rfl, ?_, ?_⟩)
          · show _ = nI (if _ < _ then _ else _)
            rw [if_pos (by rw [← ev]; exact c78)]
          · show _ = zgfd (zro σ 51) j (if _ < _ then _ else _)
            rw [if_pos (by rw [← ev]; exact c78)]
        · refine zw_goto (tgt := 97) hB dX6_feed_81 (by decide) ?_
          refine zw_iinc5 hB dX6_feed_97 (by first | exact zinc _ | rfl) (by first | rfl | assumption) ?_
          refine zw_goto (tgt := 38) hB dX6_feed_100 (by decide) ?_
          refine ih c42 _ _ _ o5 (Or.inr ⟨i + 1, rfl, ?_, ?_⟩)
          · show _ = nI (if _ < _ then _ else _)
            rw [if_neg (by rw [← ev]; exact c78)]; exact eu
          · show _ = zgfd (zro σ 51) j (if _ < _ then _ else _)
            rw [if_neg (by rw [← ev]; exact c78)]; exact ev
  refine zw_aload0 hB dX6_feed_0 ?_
  refine zw_iload1 hB dX6_feed_1 ?_
  refine zw_callV1P (M' := mX6_isFarm) hB dX6_feed_2 zl_X6_117 zg_X6_isFarm (zRc.of rfl rfl rfl) (s_X6_isFarm hF hF6 _) ?_
  refine zw_if_neB (tgt := 14) hB dX6_feed_5 (by decide) (fun c5 => ?_) (fun c5 => ?_)
  · refine zw_iload2 hB dX6_feed_14 ?_
    refine zw_iconst (x := nI 0) hB dX6_feed_15 (by decide) ?_
    refine zw_iconst (x := nI 1) hB dX6_feed_16 (by decide) ?_
    refine zw_callS3P (M' := mX6_isIn) hB dX6_feed_17 zl_X6_52 zg_X6_isIn (s_X6_isIn _ _ _) ?_
    refine zw_if_neB (tgt := 30) hB dX6_feed_20 (by decide) (fun c20 => ?_) (fun c20 => ?_)
    · refine zw_iconst (x := nI 0) hB dX6_feed_30 (by decide) ?_
      refine zw_istore3 hB dX6_feed_31 (by first | rfl | assumption) ?_
      refine zw_iconst (x := -1) hB dX6_feed_32 (by decide) ?_
      refine zw_istore4 hB dX6_feed_33 (by first | rfl | assumption) ?_
      refine zw_iconst (x := nI 0) hB dX6_feed_35 (by decide) ?_
      refine zw_istore5 hB dX6_feed_36 (by first | rfl | assumption) ?_
      obtain ⟨j, hj, rfl⟩ := zIn_j (by omega) c5
      exact hl j rfl hj ((zfo_2 c5).trans (zou_t (m := 1) (by omega) c20)) 0 (by omega) _ _ _ zR3.rf (Or.inl ⟨rfl, rfl, rfl⟩)
    · refine zw_aload0 hB dX6_feed_23 ?_
      refine zw_bipush (x := -2) hB dX6_feed_24 (by decide) ?_
      refine zw_callV1 (M' := mX6_no) hB dX6_feed_26 zl_X6_48 zg_X6_no (zRc.of rfl rfl rfl) (s_X6_no (k := 2) _ (by decide) (by omega)) (fun v26 σ26 hq26 => ?_)
      obtain ⟨rfl, rfl⟩ := hq26
      refine zw_iret hB hR dX6_feed_29 rfl ?_
      rw [show zfo (znb (zIn f0 F)) (zou w (nI 1)) (nI 0) = -2 from (zfo_2 c5).trans (zou_f (m := 1) (by omega) c20)]
      exact zRQ.no h (by decide) (by omega) (by decide)
  · refine zw_aload0 hB dX6_feed_8 ?_
    refine zw_iconst (x := -1) hB dX6_feed_9 (by decide) ?_
    refine zw_callV1 (M' := mX6_no) hB dX6_feed_10 zl_X6_48 zg_X6_no (zRc.of rfl rfl rfl) (s_X6_no (k := 1) _ (by decide) (by omega)) (fun v10 σ10 hq10 => ?_)
    obtain ⟨rfl, rfl⟩ := hq10
    refine zw_iret hB hR dX6_feed_13 rfl ?_
    rw [show zfo (znb (zIn f0 F)) (zou w (nI 1)) (nI 0) = -1 from zfo_1 c5]
    exact zRQ.no h (by decide) (by omega) (by decide)
