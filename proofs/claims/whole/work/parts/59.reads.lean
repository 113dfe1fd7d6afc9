/-! LETTERS: the reference's statement -/
theorem zsx_at {g : Nat → Nat} {L b k : Nat} (hb : b < L) (hz : ¬ zsh (g b) = 0) (hk : k < zln (zsh (g b))) (hG : ∀ j, j < k → b + 1 + j < L ∧ zft (g (b + 1 + j)) (zsg (zsh (g b)) j) = true) (hn : ¬ (b + 1 + k < L ∧ zft (g (b + 1 + k)) (zsg (zsh (g b)) k) = true)) : zsx g L b = some (b + 1 + k) := by
  unfold zsx
  rw [if_neg (show ¬ L ≤ b by omega), if_neg hz]
  have hp : zsb g L b (zsh (g b)) k = true := decide_eq_true (by
    by_cases c : L ≤ b + 1 + k
    · exact Or.inl c
    · exact Or.inr (fun z => hn ⟨by omega, z⟩))
  rw [zfst_so hp (zln (zsh (g b))) 0 (by omega) (by omega) (fun j _ hj z => ?_)]
  · rfl
  · unfold zsb at z
    rw [decide_eq_true_eq] at z
    have := hG j hj
    rcases z with z | z
    · omega
    · exact z this.2
theorem zsx_ok {g : Nat → Nat} {L b : Nat} (hb : b < L) (hz : ¬ zsh (g b) = 0) (hG : ∀ j, j < zln (zsh (g b)) → b + 1 + j < L ∧ zft (g (b + 1 + j)) (zsg (zsh (g b)) j) = true) : zsx g L b = none := by
  unfold zsx
  rw [if_neg (show ¬ L ≤ b by omega), if_neg hz, zfst_no (zln (zsh (g b))) 0 (fun j _ hj z => ?_)]
  · rfl
  · unfold zsb at z
    rw [decide_eq_true_eq] at z
    have := hG j (by omega)
    rcases z with z | z
    · omega
    · exact z this.2
theorem zdg_ft {l : List Int32} {i : Nat} : zdg l i ↔ (i < l.length ∧ zft (zlc l i) 100 = true) := by
  unfold zft
  rw [if_pos rfl, decide_eq_true_eq]
theorem zkd_ft {l : List Int32} {i : Nat} : zkd1 l i ↔ (i < l.length ∧ zft (zlc l i) 107 = true) := by
  unfold zft
  rw [if_neg (by decide), if_pos rfl, decide_eq_true_eq]
theorem zhr_59 {l : List Int32} (hc : ∀ x ∈ l, ∃ c, c ≤ 255 ∧ x = nI c) {i : Nat} : zhr l i = nI 59 ↔ (i < l.length ∧ zft (zlc l i) 59 = true) := by
  unfold zhr zft
  rw [if_neg (show ¬ 59 = 100 by decide), if_neg (show ¬ 59 = 107 by decide), decide_eq_true_eq]
  by_cases h : i < l.length
  · have := (zlc_n hc h).2
    rw [if_pos h, nI_eq (by omega) (by omega)]
    exact ⟨fun z => ⟨h, z⟩, fun z => z.2⟩
  · rw [if_neg h]
    exact ⟨fun z => absurd z (by decide), fun z => absurd z.1 h⟩
/-- a shape of m digits -/
theorem zsx_D {l : List Int32} (hc : ∀ x ∈ l, ∃ c, c ≤ 255 ∧ x = nI c) {b s m : Nat} (hb : b < l.length) (hs : zsh (zlc l b) = s) (h0 : ¬ s = 0) (h1 : zln s = m + 1) (h2 : ∀ j, j < m → zsg s j = 100) (h3 : zsg s m = 59) :
    (∀ k, k < m → (∀ j, j < k → zdg l (b + 1 + j)) → ¬ zdg l (b + 1 + k) → zsx (zlc l) l.length b = some (b + 1 + k)) ∧ ((∀ j, j < m → zdg l (b + 1 + j)) → ¬ zhr l (b + 1 + m) = nI 59 → zsx (zlc l) l.length b = some (b + 1 + m)) ∧ ((∀ j, j < m → zdg l (b + 1 + j)) → zhr l (b + 1 + m) = nI 59 → zsx (zlc l) l.length b = none ∧ znx (zlc l) b = b + 1 + m + 1) := by
  have hz : ¬ zsh (zlc l b) = 0 := by rw [hs]; exact h0
  refine ⟨fun k hk hD hn => zsx_at hb hz (by rw [hs]; omega) (fun j hj => ?_) ?_, fun hD hn => zsx_at hb hz (by rw [hs]; omega) (fun j hj => ?_) ?_, fun hD hy => ⟨zsx_ok hb hz (fun j hj => ?_), ?_⟩⟩
  · rw [hs, h2 j (by omega)]; exact zdg_ft.mp (hD j hj)
  · rw [hs, h2 k hk]; exact fun z => hn (zdg_ft.mpr z)
  · rw [hs, h2 j hj]; exact zdg_ft.mp (hD j hj)
  · rw [hs, h3]; exact fun z => hn ((zhr_59 hc).mpr z)
  · rw [hs, h1] at hj
    rw [hs]
    by_cases e : j = m
    · rw [e, h3]; exact (zhr_59 hc).mp hy
    · rw [h2 j (by omega)]; exact zdg_ft.mp (hD j (by omega))
  · unfold znx
    rw [hs, h1]; omega
/-- a kind, a digit -/
theorem zsx_P {l : List Int32} (hc : ∀ x ∈ l, ∃ c, c ≤ 255 ∧ x = nI c) {b : Nat} (hb : b < l.length) (hs : zsh (zlc l b) = 2) :
    (¬ zkd1 l (b + 1) → zsx (zlc l) l.length b = some (b + 1)) ∧ (zkd1 l (b + 1) → ¬ zdg l (b + 2) → zsx (zlc l) l.length b = some (b + 2)) ∧ (zkd1 l (b + 1) → zdg l (b + 2) → ¬ zhr l (b + 3) = nI 59 → zsx (zlc l) l.length b = some (b + 3)) ∧ (zkd1 l (b + 1) → zdg l (b + 2) → zhr l (b + 3) = nI 59 → zsx (zlc l) l.length b = none ∧ znx (zlc l) b = b + 4) := by
  have hz : ¬ zsh (zlc l b) = 0 := by rw [hs]; decide
  have e0 : zsg 2 0 = 107 := by decide
  have e1 : zsg 2 1 = 100 := by decide
  have e2 : zsg 2 2 = 59 := by decide
  have e3 : zln 2 = 3 := by decide
  have G0 : zkd1 l (b + 1) → b + 1 + 0 < l.length ∧ zft (zlc l (b + 1 + 0)) (zsg (zsh (zlc l b)) 0) = true := fun z => by rw [hs, e0]; exact zkd_ft.mp z
  have G1 : zdg l (b + 2) → b + 1 + 1 < l.length ∧ zft (zlc l (b + 1 + 1)) (zsg (zsh (zlc l b)) 1) = true := fun z => by rw [hs, e1]; exact zdg_ft.mp z
  have G2 : zhr l (b + 3) = nI 59 → b + 1 + 2 < l.length ∧ zft (zlc l (b + 1 + 2)) (zsg (zsh (zlc l b)) 2) = true := fun z => by rw [hs, e2]; exact (zhr_59 hc).mp z
  refine ⟨fun h => ?_, fun h g => ?_, fun h g u => ?_, fun h g u => ⟨?_, ?_⟩⟩
  · exact zsx_at (k := 0) hb hz (by rw [hs]; decide) (fun j hj => absurd hj (by omega)) (by rw [hs, e0]; exact fun z => h (zkd_ft.mpr z))
  · exact zsx_at (k := 1) hb hz (by rw [hs]; decide) (fun j hj => by rw [show j = 0 by omega]; exact G0 h) (by rw [hs, e1]; exact fun z => g (zdg_ft.mpr z))
  · refine zsx_at (k := 2) hb hz (by rw [hs]; decide) (fun j hj => ?_) (by rw [hs, e2]; exact fun z => u ((zhr_59 hc).mpr z))
    have j2 : j = 0 ∨ j = 1 := by omega
    rcases j2 with rfl | rfl
    · exact G0 h
    · exact G1 g
  · refine zsx_ok hb hz (fun j hj => ?_)
    rw [hs, e3] at hj
    have j3 : j = 0 ∨ j = 1 ∨ j = 2 := by omega
    rcases j3 with rfl | rfl | rfl
    · exact G0 h
    · exact G1 g
    · exact G2 u
  · unfold znx
    rw [hs, e3]
def zNb (l : List Int32) (b : Nat) (τ : zSt) : Prop := (zlc l b = 102 → τ 60 0 = nI (zn2 (zlc l) (b + 1)) ∧ τ 60 1 = nI (zn2 (zlc l) (b + 3)) ∧ τ 60 2 = nI (zn2 (zlc l) (b + 5))) ∧ (zlc l b = 112 → τ 60 0 = zkl (zlc l (b + 1)) ∧ τ 60 1 = nI (zlc l (b + 2) - 48)) ∧ (zlc l b = 97 → τ 60 0 = nI (zlc l (b + 1) - 48) ∧ τ 60 1 = nI (zlc l (b + 2) - 48)) ∧ (zlc l b = 111 → τ 60 0 = nI (zlc l (b + 1) - 48)) ∧ (zlc l b = 115 → τ 60 0 = nI (zlc l (b + 1) - 48)) ∧ (zlc l b = 104 → τ 60 0 = nI (zlc l (b + 1) - 48) ∧ τ 60 1 = nI (zlc l (b + 2) - 48) ∧ τ 60 2 = nI (zn2 (zlc l) (b + 3))) ∧ (zlc l b = 121 → τ 60 0 = nI (zn2 (zlc l) (b + 1)))
def zRs (l : List Int32) (b : Nat) (σ τ : zSt) : Prop := (∀ c, c ≠ 50 → c ≠ 60 → τ c = σ c) ∧ (∀ i, i ≠ 12 → τ 50 i = σ 50 i) ∧ (zsx (zlc l) l.length b = none → τ 50 12 = nI (znx (zlc l) b) ∧ zNb l b τ) ∧ ∀ f, zsx (zlc l) l.length b = some f → τ 50 12 = nI f
theorem zRs_f {l : List Int32} {b f : Nat} {σ τ : zSt} (h1 : ∀ c, c ≠ 50 → c ≠ 60 → τ c = σ c) (h2 : ∀ i, i ≠ 12 → τ 50 i = σ 50 i) (e : zsx (zlc l) l.length b = some f) (h3 : τ 50 12 = nI f) : (some (Value.int (nI 0)) = some (.int (zb ((zsx (zlc l) l.length b).isNone = true)))) ∧ zRs l b σ τ := by
  refine ⟨by rw [e, zb_f (show ¬ (some f).isNone = true from fun z => by cases z)]; rfl, h1, h2, fun z => ?_, fun f' z => ?_⟩
  · rw [e] at z; cases z
  · rw [e] at z; cases z; exact h3
theorem zRs_t {l : List Int32} {b : Nat} {σ τ : zSt} (h1 : ∀ c, c ≠ 50 → c ≠ 60 → τ c = σ c) (h2 : ∀ i, i ≠ 12 → τ 50 i = σ 50 i) (e : zsx (zlc l) l.length b = none) (h3 : τ 50 12 = nI (znx (zlc l) b)) (h4 : zNb l b τ) : (some (Value.int (nI 1)) = some (.int (zb ((zsx (zlc l) l.length b).isNone = true)))) ∧ zRs l b σ τ := by
  refine ⟨by rw [e, zb_t (show (none : Option Nat).isNone = true from rfl)]; rfl, h1, h2, fun _ => ⟨h3, h4⟩, fun f' z => ?_⟩
  rw [e] at z; cases z

theorem zstd0 : (List.range 256).all (fun c => (c == 102 || c == 112 || c == 97 || c == 111 || c == 115 || c == 104 || c == 121) || ((if (c : Int) < 97 ∨ 121 < (c : Int) then some (260 : Int) else (#[177, 260, 260, 260, 260, 116, 260, 214, 260, 260, 260, 260, 260, 260, 204, 152, 260, 260, 204, 260, 260, 260, 260, 260, 250] : Array Int)[((c : Int) - 97).toNat]?) == some 260)) = true := by decide +kernel
theorem zstd {c : Nat} (hc : c < 256) (q102 : ¬ c = 102) (q112 : ¬ c = 112) (q97 : ¬ c = 97) (q111 : ¬ c = 111) (q115 : ¬ c = 115) (q104 : ¬ c = 104) (q121 : ¬ c = 121) : (if (c : Int) < 97 ∨ 121 < (c : Int) then some (260 : Int) else (#[177, 260, 260, 260, 260, 116, 260, 214, 260, 260, 260, 260, 260, 260, 204, 152, 260, 260, 204, 260, 260, 260, 260, 260, 250] : Array Int)[((c : Int) - 97).toNat]?) = some 260 := by
  have h := List.all_eq_true.mp zstd0 c (List.mem_range.mpr hc)
  rcases Bool.or_eq_true_iff.mp h with h | h
  · simp only [Bool.or_eq_true, beq_iff_eq] at h
    omega
  · exact eq_of_beq h
theorem s_X6_readsStatement {n : Nat} {σ : zSt}  {l : List Int32} (hL : σ 50 10 = nI l.length) (h96 : l.length ≤ 96) (hA : zArr (σ 57) l) (hc : ∀ x ∈ l, ∃ c, c ≤ 255 ∧ x = nI c) {b : Nat} (hbL : b ≤ 104) (hp : σ 50 12 = nI b) : zSem (n + 2) mX6_readsStatement [.ref 50] σ (fun v τ => v = some (.int (zb ((zsx (zlc l) l.length b).isNone = true))) ∧ zRs l b σ τ) := by
  refine zSem.of (by decide +kernel) (Nat.le_of_ble_eq_true rfl) (fun X hB hR => ?_)
  show zW X 0 [some (.ref 50), none, none] [] σ
  have hbl : b < 200 := by omega
  by_cases hb : b < l.length
  · by_cases q102 : zlc l b = 102
    · have qc := q102
      have hs : zsh (zlc l b) = 1 := by rw [qc]; decide
      refine zw_aload0 hB dX6_readsStatement_0 ?_
      refine zw_callV0P (M' := mX6_here) hB dX6_readsStatement_1 zl_X6_98 zg_X6_here (zRc.of rfl rfl rfl) (s_X6_here hL h96 hA hc (by omega) hp) ?_
      rw [show zhr l b = nI 102 from (if_pos hb).trans (by rw [q102])]
      refine zw_istore1 hB dX6_readsStatement_4 rfl ?_
      refine zw_aload0 hB dX6_readsStatement_5 ?_
      refine zw_dup hB dX6_readsStatement_6 rfl ?_
      refine zw_getfV (x := nI b) hB dX6_readsStatement_7 zf_X6_95 rfl rfl hp ?_
      refine zw_iconst (x := nI 1) hB dX6_readsStatement_10 (by decide) ?_
      refine zw_iaddN hB dX6_readsStatement_11 ?_
      refine zw_putfI hB dX6_readsStatement_12 zfw_X6_95 rfl rfl ?_
      refine zw_iload1 hB dX6_readsStatement_15 ?_
      have o1_0 : ∀ c, c ≠ 50 → c ≠ 60 → (zC σ 50 (upd (σ 50) 12 (nI (b + 1)))) c = σ c := fun c h1 h2 => zC_n h1
      have o2_0 : ∀ i, i ≠ 12 → (zC σ 50 (upd (σ 50) 12 (nI (b + 1)))) 50 i = σ 50 i := fun i hi => by rw [zC_s]; exact zupd_o hi
      have p_0 : (zC σ 50 (upd (σ 50) 12 (nI (b + 1)))) 50 12 = nI (b + 1 + 0) := by rw [zC_s, zupd_s]
      refine zw_tabG (off := 116) (tgt := 132) hB dX6_readsStatement_16 (by decide) (by decide) (by decide) ?_
      refine zw_aload0 hB dX6_readsStatement_132 ?_
      refine zw_iconst (x := nI 0) hB dX6_readsStatement_133 (by decide) ?_
      refine zw_iconst (x := nI 2) hB dX6_readsStatement_134 (by decide) ?_
      refine zw_callV2 (M' := mX6_readsNumber) hB dX6_readsStatement_135 zl_X6_105 zg_X6_readsNumber (zRc.of rfl rfl rfl) (s_X6_readsNumber (l := l) ((o2_0 10 (by omega)).trans hL) h96 (by rw [o1_0 57 (by omega) (by omega)]; exact hA) hc (q := b + 1 + 0) (d := 2) (k := 0) (by omega) (by omega) (by omega) p_0) (fun v135 σ135 hq135 => ?_)
      obtain ⟨rfl, t1_135, t2_135, t3_135, t4_135, t5_135⟩ := hq135
      have o1_135 : ∀ c, c ≠ 50 → c ≠ 60 → σ135 c = σ c := fun c h1 h2 => (t1_135 c h1 h2).trans (o1_0 c h1 h2)
      have o2_135 : ∀ i, i ≠ 12 → σ135 50 i = σ 50 i := fun i hi => (t2_135 i hi).trans (o2_0 i hi)
      refine zw_if_eqB (tgt := 163) hB dX6_readsStatement_138 (by decide) (fun c138 => ?_) (fun c138 => ?_)
      · refine zw_iconst (x := nI 0) hB dX6_readsStatement_163 (by decide) ?_
        refine zw_istore2 hB dX6_readsStatement_164 (by first | rfl | assumption) ?_
        refine zw_goto (tgt := 288) hB dX6_readsStatement_165 (by decide) ?_
        refine zw_iload2 hB dX6_readsStatement_288 ?_
        refine zw_if_eq (tgt := 301) hB dX6_readsStatement_289 (by decide) (fun c289 => ?_) (fun c289 => by first | exact absurd (by decide) c289 | exact absurd c289 (by decide) | omega)
        refine zw_iconst (x := nI 0) hB dX6_readsStatement_301 (by decide) ?_
        refine zw_zret hB hR dX6_readsStatement_302 rfl (by decide) ?_
        obtain ⟨K1, K2, K3⟩ := zsx_D hc hb hs (m := 6) (by decide) (by decide) (by decide) (by decide)
        obtain ⟨i, hi, g1, g2, g3⟩ := t5_135 c138
        have hD : ∀ j, j < 0 + i → zdg l (b + 1 + j) := by
          intro j hj
          have z := g1 (j - 0) (by omega)
          rwa [show b + 1 + 0 + (j - 0) = b + 1 + j by omega] at z
        exact zRs_f o1_135 o2_135 (K1 (0 + i) (by omega) hD (by rw [← Nat.add_assoc]; exact g2)) (g3.trans (congrArg nI (by omega)))
      · have p_135 : σ135 50 12 = nI (b + 1 + 2) := (t4_135 c138).1.trans (congrArg nI (by omega))
        have v0_135 := (t4_135 c138).2
        refine zw_aload0 hB dX6_readsStatement_141 ?_
        refine zw_iconst (x := nI 1) hB dX6_readsStatement_142 (by decide) ?_
        refine zw_iconst (x := nI 2) hB dX6_readsStatement_143 (by decide) ?_
        refine zw_callV2 (M' := mX6_readsNumber) hB dX6_readsStatement_144 zl_X6_105 zg_X6_readsNumber (zRc.of rfl rfl rfl) (s_X6_readsNumber (l := l) ((o2_135 10 (by omega)).trans hL) h96 (by rw [o1_135 57 (by omega) (by omega)]; exact hA) hc (q := b + 1 + 2) (d := 2) (k := 1) (by omega) (by omega) (by omega) p_135) (fun v144 σ144 hq144 => ?_)
        obtain ⟨rfl, t1_144, t2_144, t3_144, t4_144, t5_144⟩ := hq144
        have o1_144 : ∀ c, c ≠ 50 → c ≠ 60 → σ144 c = σ c := fun c h1 h2 => (t1_144 c h1 h2).trans (o1_135 c h1 h2)
        have o2_144 : ∀ i, i ≠ 12 → σ144 50 i = σ 50 i := fun i hi => (t2_144 i hi).trans (o2_135 i hi)
        refine zw_if_eqB (tgt := 163) hB dX6_readsStatement_147 (by decide) (fun c147 => ?_) (fun c147 => ?_)
        · refine zw_iconst (x := nI 0) hB dX6_readsStatement_163 (by decide) ?_
          refine zw_istore2 hB dX6_readsStatement_164 (by first | rfl | assumption) ?_
          refine zw_goto (tgt := 288) hB dX6_readsStatement_165 (by decide) ?_
          refine zw_iload2 hB dX6_readsStatement_288 ?_
          refine zw_if_eq (tgt := 301) hB dX6_readsStatement_289 (by decide) (fun c289 => ?_) (fun c289 => by first | exact absurd (by decide) c289 | exact absurd c289 (by decide) | omega)
          refine zw_iconst (x := nI 0) hB dX6_readsStatement_301 (by decide) ?_
          refine zw_zret hB hR dX6_readsStatement_302 rfl (by decide) ?_
          obtain ⟨K1, K2, K3⟩ := zsx_D hc hb hs (m := 6) (by decide) (by decide) (by decide) (by decide)
          obtain ⟨i, hi, g1, g2, g3⟩ := t5_144 c147
          have hD : ∀ j, j < 2 + i → zdg l (b + 1 + j) := by
            intro j hj
            by_cases u135 : j < 2
            · have z := c138 (j - 0) (by omega)
              rwa [show b + 1 + 0 + (j - 0) = b + 1 + j by omega] at z
            have z := g1 (j - 2) (by omega)
            rwa [show b + 1 + 2 + (j - 2) = b + 1 + j by omega] at z
          exact zRs_f o1_144 o2_144 (K1 (2 + i) (by omega) hD (by rw [← Nat.add_assoc]; exact g2)) (g3.trans (congrArg nI (by omega)))
        · have p_144 : σ144 50 12 = nI (b + 1 + 4) := (t4_144 c147).1.trans (congrArg nI (by omega))
          have v1_144 := (t4_144 c147).2
          have v0_144 := (t3_144 0 (by omega)).trans v0_135
          refine zw_aload0 hB dX6_readsStatement_150 ?_
          refine zw_iconst (x := nI 2) hB dX6_readsStatement_151 (by decide) ?_
          refine zw_iconst (x := nI 2) hB dX6_readsStatement_152 (by decide) ?_
          refine zw_callV2 (M' := mX6_readsNumber) hB dX6_readsStatement_153 zl_X6_105 zg_X6_readsNumber (zRc.of rfl rfl rfl) (s_X6_readsNumber (l := l) ((o2_144 10 (by omega)).trans hL) h96 (by rw [o1_144 57 (by omega) (by omega)]; exact hA) hc (q := b + 1 + 4) (d := 2) (k := 2) (by omega) (by omega) (by omega) p_144) (fun v153 σ153 hq153 => ?_)
          obtain ⟨rfl, t1_153, t2_153, t3_153, t4_153, t5_153⟩ := hq153
          have o1_153 : ∀ c, c ≠ 50 → c ≠ 60 → σ153 c = σ c := fun c h1 h2 => (t1_153 c h1 h2).trans (o1_144 c h1 h2)
          have o2_153 : ∀ i, i ≠ 12 → σ153 50 i = σ 50 i := fun i hi => (t2_153 i hi).trans (o2_144 i hi)
          refine zw_if_eqB (tgt := 163) hB dX6_readsStatement_156 (by decide) (fun c156 => ?_) (fun c156 => ?_)
          · refine zw_iconst (x := nI 0) hB dX6_readsStatement_163 (by decide) ?_
            refine zw_istore2 hB dX6_readsStatement_164 (by first | rfl | assumption) ?_
            refine zw_goto (tgt := 288) hB dX6_readsStatement_165 (by decide) ?_
            refine zw_iload2 hB dX6_readsStatement_288 ?_
            refine zw_if_eq (tgt := 301) hB dX6_readsStatement_289 (by decide) (fun c289 => ?_) (fun c289 => by first | exact absurd (by decide) c289 | exact absurd c289 (by decide) | omega)
            refine zw_iconst (x := nI 0) hB dX6_readsStatement_301 (by decide) ?_
            refine zw_zret hB hR dX6_readsStatement_302 rfl (by decide) ?_
            obtain ⟨K1, K2, K3⟩ := zsx_D hc hb hs (m := 6) (by decide) (by decide) (by decide) (by decide)
            obtain ⟨i, hi, g1, g2, g3⟩ := t5_153 c156
            have hD : ∀ j, j < 4 + i → zdg l (b + 1 + j) := by
              intro j hj
              by_cases u135 : j < 2
              · have z := c138 (j - 0) (by omega)
                rwa [show b + 1 + 0 + (j - 0) = b + 1 + j by omega] at z
              by_cases u144 : j < 4
              · have z := c147 (j - 2) (by omega)
                rwa [show b + 1 + 2 + (j - 2) = b + 1 + j by omega] at z
              have z := g1 (j - 4) (by omega)
              rwa [show b + 1 + 4 + (j - 4) = b + 1 + j by omega] at z
            exact zRs_f o1_153 o2_153 (K1 (4 + i) (by omega) hD (by rw [← Nat.add_assoc]; exact g2)) (g3.trans (congrArg nI (by omega)))
          · have p_153 : σ153 50 12 = nI (b + 1 + 6) := (t4_153 c156).1.trans (congrArg nI (by omega))
            have v2_153 := (t4_153 c156).2
            have v0_153 := (t3_153 0 (by omega)).trans v0_144
            have v1_153 := (t3_153 1 (by omega)).trans v1_144
            refine zw_iconst (x := nI 1) hB dX6_readsStatement_159 (by decide) ?_
            refine zw_goto (tgt := 164) hB dX6_readsStatement_160 (by decide) ?_
            refine zw_istore2 hB dX6_readsStatement_164 (by first | rfl | assumption) ?_
            refine zw_goto (tgt := 288) hB dX6_readsStatement_165 (by decide) ?_
            refine zw_iload2 hB dX6_readsStatement_288 ?_
            refine zw_if_eq (tgt := 301) hB dX6_readsStatement_289 (by decide) (fun c289 => by first | exact absurd c289 (by decide) | exact absurd (by decide) c289 | omega) (fun c289 => ?_)
            refine zw_aload0 hB dX6_readsStatement_292 ?_
            refine zw_callV0P (M' := mX6_here) hB dX6_readsStatement_293 zl_X6_98 zg_X6_here (zRc.of rfl rfl rfl) (s_X6_here (l := l) ((o2_153 10 (by omega)).trans hL) h96 (by rw [o1_153 57 (by omega) (by omega)]; exact hA) hc (q := b + 1 + 6) (by omega) p_153) ?_
            refine zw_bipush (x := nI 59) hB dX6_readsStatement_296 (by decide) ?_
            refine zw_icmp_eq (tgt := 303) hB dX6_readsStatement_298 (by decide) (fun c298 => ?_) (fun c298 => ?_)
            · refine zw_aload0 hB dX6_readsStatement_303 ?_
              refine zw_dup hB dX6_readsStatement_304 rfl ?_
              refine zw_getfV (x := nI (b + 1 + 6)) hB dX6_readsStatement_305 zf_X6_95 rfl rfl (p_153) ?_
              refine zw_iconst (x := nI 1) hB dX6_readsStatement_308 (by decide) ?_
              refine zw_iaddN hB dX6_readsStatement_309 ?_
              refine zw_putfI hB dX6_readsStatement_310 zfw_X6_95 rfl rfl ?_
              refine zw_iconst (x := nI 1) hB dX6_readsStatement_313 (by decide) ?_
              refine zw_zret hB hR dX6_readsStatement_314 rfl (by decide) ?_
              obtain ⟨K1, K2, K3⟩ := zsx_D hc hb hs (m := 6) (by decide) (by decide) (by decide) (by decide)
              have hD : ∀ j, j < 6 → zdg l (b + 1 + j) := by
                intro j hj
                by_cases u135 : j < 2
                · have z := c138 (j - 0) (by omega)
                  rwa [show b + 1 + 0 + (j - 0) = b + 1 + j by omega] at z
                by_cases u144 : j < 4
                · have z := c147 (j - 2) (by omega)
                  rwa [show b + 1 + 2 + (j - 2) = b + 1 + j by omega] at z
                by_cases u153 : j < 6
                · have z := c156 (j - 4) (by omega)
                  rwa [show b + 1 + 4 + (j - 4) = b + 1 + j by omega] at z
                omega
              have K := K3 hD c298
              refine zRs_t (fun c h1 h2 => (zC_n h1).trans (o1_153 c h1 h2)) (fun i hi => (congrFun zC_s i).trans ((zupd_o hi).trans (o2_153 i hi))) K.1 (by rw [zC_s, zupd_s, K.2]) ?_
              have w0 : (zC σ153 50 (upd (σ153 50) 12 (nI (b + 1 + 6 + 1)))) 60 0 = _ := (congrFun (zC_n (by omega)) 0).trans (v0_153.trans (congrArg nI znm_2))
              have w1 : (zC σ153 50 (upd (σ153 50) 12 (nI (b + 1 + 6 + 1)))) 60 1 = _ := (congrFun (zC_n (by omega)) 1).trans (v1_153.trans (congrArg nI znm_2))
              have w2 : (zC σ153 50 (upd (σ153 50) 12 (nI (b + 1 + 6 + 1)))) 60 2 = _ := (congrFun (zC_n (by omega)) 2).trans (v2_153.trans (congrArg nI znm_2))
              refine ⟨fun _ => ⟨w0, w1, w2⟩, fun z => absurd (qc.symm.trans z) (by decide), fun z => absurd (qc.symm.trans z) (by decide), fun z => absurd (qc.symm.trans z) (by decide), fun z => absurd (qc.symm.trans z) (by decide), fun z => absurd (qc.symm.trans z) (by decide), fun z => absurd (qc.symm.trans z) (by decide)⟩
            · refine zw_iconst (x := nI 0) hB dX6_readsStatement_301 (by decide) ?_
              refine zw_zret hB hR dX6_readsStatement_302 rfl (by decide) ?_
              obtain ⟨K1, K2, K3⟩ := zsx_D hc hb hs (m := 6) (by decide) (by decide) (by decide) (by decide)
              have hD : ∀ j, j < 6 → zdg l (b + 1 + j) := by
                intro j hj
                by_cases u135 : j < 2
                · have z := c138 (j - 0) (by omega)
                  rwa [show b + 1 + 0 + (j - 0) = b + 1 + j by omega] at z
                by_cases u144 : j < 4
                · have z := c147 (j - 2) (by omega)
                  rwa [show b + 1 + 2 + (j - 2) = b + 1 + j by omega] at z
                by_cases u153 : j < 6
                · have z := c156 (j - 4) (by omega)
                  rwa [show b + 1 + 4 + (j - 4) = b + 1 + j by omega] at z
                omega
              exact zRs_f o1_153 o2_153 (K2 hD c298) p_153
    by_cases q112 : zlc l b = 112
    · have qc := q112
      have hs : zsh (zlc l b) = 2 := by rw [qc]; decide
      refine zw_aload0 hB dX6_readsStatement_0 ?_
      refine zw_callV0P (M' := mX6_here) hB dX6_readsStatement_1 zl_X6_98 zg_X6_here (zRc.of rfl rfl rfl) (s_X6_here hL h96 hA hc (by omega) hp) ?_
      rw [show zhr l b = nI 112 from (if_pos hb).trans (by rw [q112])]
      refine zw_istore1 hB dX6_readsStatement_4 rfl ?_
      refine zw_aload0 hB dX6_readsStatement_5 ?_
      refine zw_dup hB dX6_readsStatement_6 rfl ?_
      refine zw_getfV (x := nI b) hB dX6_readsStatement_7 zf_X6_95 rfl rfl hp ?_
      refine zw_iconst (x := nI 1) hB dX6_readsStatement_10 (by decide) ?_
      refine zw_iaddN hB dX6_readsStatement_11 ?_
      refine zw_putfI hB dX6_readsStatement_12 zfw_X6_95 rfl rfl ?_
      refine zw_iload1 hB dX6_readsStatement_15 ?_
      have o1_0 : ∀ c, c ≠ 50 → c ≠ 60 → (zC σ 50 (upd (σ 50) 12 (nI (b + 1)))) c = σ c := fun c h1 h2 => zC_n h1
      have o2_0 : ∀ i, i ≠ 12 → (zC σ 50 (upd (σ 50) 12 (nI (b + 1)))) 50 i = σ 50 i := fun i hi => by rw [zC_s]; exact zupd_o hi
      have p_0 : (zC σ 50 (upd (σ 50) 12 (nI (b + 1)))) 50 12 = nI (b + 1 + 0) := by rw [zC_s, zupd_s]
      refine zw_tabG (off := 152) (tgt := 168) hB dX6_readsStatement_16 (by decide) (by decide) (by decide) ?_
      refine zw_aload0 hB dX6_readsStatement_168 ?_
      refine zw_callV0 (M' := mX6_readsKind) hB dX6_readsStatement_169 zl_X6_109 zg_X6_readsKind (zRc.of rfl rfl rfl) (s_X6_readsKind (l := l) ((o2_0 10 (by omega)).trans hL) h96 (by rw [o1_0 57 (by omega) (by omega)]; exact hA) hc (q := b + 1) (by omega) p_0) (fun v169 σ169 hq169 => ?_)
      obtain ⟨rfl, t1_169, t2_169, t3_169, t4_169, t5_169⟩ := hq169
      have o1_169 : ∀ c, c ≠ 50 → c ≠ 60 → σ169 c = σ c := fun c h1 h2 => (t1_169 c h1 h2).trans (o1_0 c h1 h2)
      have o2_169 : ∀ i, i ≠ 12 → σ169 50 i = σ 50 i := fun i hi => (t2_169 i hi).trans (o2_0 i hi)
      refine zw_if_eqB (tgt := 188) hB dX6_readsStatement_172 (by decide) (fun c172 => ?_) (fun c172 => ?_)
      · refine zw_iconst (x := nI 0) hB dX6_readsStatement_188 (by decide) ?_
        refine zw_istore2 hB dX6_readsStatement_189 (by first | rfl | assumption) ?_
        refine zw_goto (tgt := 288) hB dX6_readsStatement_190 (by decide) ?_
        refine zw_iload2 hB dX6_readsStatement_288 ?_
        refine zw_if_eq (tgt := 301) hB dX6_readsStatement_289 (by decide) (fun c289 => ?_) (fun c289 => by first | exact absurd (by decide) c289 | exact absurd c289 (by decide) | omega)
        refine zw_iconst (x := nI 0) hB dX6_readsStatement_301 (by decide) ?_
        refine zw_zret hB hR dX6_readsStatement_302 rfl (by decide) ?_
        obtain ⟨K1, K2, K3, K4⟩ := zsx_P hc hb hs
        exact zRs_f o1_169 o2_169 (K1 c172) (t5_169 c172)
      · have p_169 : σ169 50 12 = nI (b + 1 + 1) := (t4_169 c172).1.trans (congrArg nI (by omega))
        have v0_169 := (t4_169 c172).2
        refine zw_aload0 hB dX6_readsStatement_175 ?_
        refine zw_iconst (x := nI 1) hB dX6_readsStatement_176 (by decide) ?_
        refine zw_iconst (x := nI 1) hB dX6_readsStatement_177 (by decide) ?_
        refine zw_callV2 (M' := mX6_readsNumber) hB dX6_readsStatement_178 zl_X6_105 zg_X6_readsNumber (zRc.of rfl rfl rfl) (s_X6_readsNumber (l := l) ((o2_169 10 (by omega)).trans hL) h96 (by rw [o1_169 57 (by omega) (by omega)]; exact hA) hc (q := b + 1 + 1) (d := 1) (k := 1) (by omega) (by omega) (by omega) p_169) (fun v178 σ178 hq178 => ?_)
        obtain ⟨rfl, t1_178, t2_178, t3_178, t4_178, t5_178⟩ := hq178
        have o1_178 : ∀ c, c ≠ 50 → c ≠ 60 → σ178 c = σ c := fun c h1 h2 => (t1_178 c h1 h2).trans (o1_169 c h1 h2)
        have o2_178 : ∀ i, i ≠ 12 → σ178 50 i = σ 50 i := fun i hi => (t2_178 i hi).trans (o2_169 i hi)
        refine zw_if_eqB (tgt := 188) hB dX6_readsStatement_181 (by decide) (fun c181 => ?_) (fun c181 => ?_)
        · refine zw_iconst (x := nI 0) hB dX6_readsStatement_188 (by decide) ?_
          refine zw_istore2 hB dX6_readsStatement_189 (by first | rfl | assumption) ?_
          refine zw_goto (tgt := 288) hB dX6_readsStatement_190 (by decide) ?_
          refine zw_iload2 hB dX6_readsStatement_288 ?_
          refine zw_if_eq (tgt := 301) hB dX6_readsStatement_289 (by decide) (fun c289 => ?_) (fun c289 => by first | exact absurd (by decide) c289 | exact absurd c289 (by decide) | omega)
          refine zw_iconst (x := nI 0) hB dX6_readsStatement_301 (by decide) ?_
          refine zw_zret hB hR dX6_readsStatement_302 rfl (by decide) ?_
          obtain ⟨K1, K2, K3, K4⟩ := zsx_P hc hb hs
          obtain ⟨i, hi, g1, g2, g3⟩ := t5_178 c181
          obtain rfl : i = 0 := by omega
          exact zRs_f o1_178 o2_178 (K2 c172 g2) g3
        · have p_178 : σ178 50 12 = nI (b + 1 + 2) := (t4_178 c181).1.trans (congrArg nI (by omega))
          have v1_178 := (t4_178 c181).2
          have v0_178 := (t3_178 0 (by omega)).trans v0_169
          refine zw_iconst (x := nI 1) hB dX6_readsStatement_184 (by decide) ?_
          refine zw_goto (tgt := 189) hB dX6_readsStatement_185 (by decide) ?_
          refine zw_istore2 hB dX6_readsStatement_189 (by first | rfl | assumption) ?_
          refine zw_goto (tgt := 288) hB dX6_readsStatement_190 (by decide) ?_
          refine zw_iload2 hB dX6_readsStatement_288 ?_
          refine zw_if_eq (tgt := 301) hB dX6_readsStatement_289 (by decide) (fun c289 => by first | exact absurd c289 (by decide) | exact absurd (by decide) c289 | omega) (fun c289 => ?_)
          refine zw_aload0 hB dX6_readsStatement_292 ?_
          refine zw_callV0P (M' := mX6_here) hB dX6_readsStatement_293 zl_X6_98 zg_X6_here (zRc.of rfl rfl rfl) (s_X6_here (l := l) ((o2_178 10 (by omega)).trans hL) h96 (by rw [o1_178 57 (by omega) (by omega)]; exact hA) hc (q := b + 1 + 2) (by omega) p_178) ?_
          refine zw_bipush (x := nI 59) hB dX6_readsStatement_296 (by decide) ?_
          refine zw_icmp_eq (tgt := 303) hB dX6_readsStatement_298 (by decide) (fun c298 => ?_) (fun c298 => ?_)
          · refine zw_aload0 hB dX6_readsStatement_303 ?_
            refine zw_dup hB dX6_readsStatement_304 rfl ?_
            refine zw_getfV (x := nI (b + 1 + 2)) hB dX6_readsStatement_305 zf_X6_95 rfl rfl (p_178) ?_
            refine zw_iconst (x := nI 1) hB dX6_readsStatement_308 (by decide) ?_
            refine zw_iaddN hB dX6_readsStatement_309 ?_
            refine zw_putfI hB dX6_readsStatement_310 zfw_X6_95 rfl rfl ?_
            refine zw_iconst (x := nI 1) hB dX6_readsStatement_313 (by decide) ?_
            refine zw_zret hB hR dX6_readsStatement_314 rfl (by decide) ?_
            obtain ⟨K1, K2, K3, K4⟩ := zsx_P hc hb hs
            have hd1 : zdg l (b + 2) := c181 0 (by omega)
            have K := K4 c172 hd1 c298
            refine zRs_t (fun c h1 h2 => (zC_n h1).trans (o1_178 c h1 h2)) (fun i hi => (congrFun zC_s i).trans ((zupd_o hi).trans (o2_178 i hi))) K.1 (by rw [zC_s, zupd_s, K.2]) ?_
            have w0 : (zC σ178 50 (upd (σ178 50) 12 (nI (b + 1 + 2 + 1)))) 60 0 = _ := (congrFun (zC_n (by omega)) 0).trans v0_178
            have w1 : (zC σ178 50 (upd (σ178 50) 12 (nI (b + 1 + 2 + 1)))) 60 1 = _ := (congrFun (zC_n (by omega)) 1).trans v1_178
            refine ⟨fun z => absurd (qc.symm.trans z) (by decide), fun _ => ⟨w0, w1.trans (congrArg nI znm_1)⟩, fun z => absurd (qc.symm.trans z) (by decide), fun z => absurd (qc.symm.trans z) (by decide), fun z => absurd (qc.symm.trans z) (by decide), fun z => absurd (qc.symm.trans z) (by decide), fun z => absurd (qc.symm.trans z) (by decide)⟩
          · refine zw_iconst (x := nI 0) hB dX6_readsStatement_301 (by decide) ?_
            refine zw_zret hB hR dX6_readsStatement_302 rfl (by decide) ?_
            obtain ⟨K1, K2, K3, K4⟩ := zsx_P hc hb hs
            have hd1 : zdg l (b + 2) := c181 0 (by omega)
            exact zRs_f o1_178 o2_178 (K3 c172 hd1 c298) p_178
    by_cases q97 : zlc l b = 97
    · have qc := q97
      have hs : zsh (zlc l b) = 3 := by rw [qc]; decide
      refine zw_aload0 hB dX6_readsStatement_0 ?_
      refine zw_callV0P (M' := mX6_here) hB dX6_readsStatement_1 zl_X6_98 zg_X6_here (zRc.of rfl rfl rfl) (s_X6_here hL h96 hA hc (by omega) hp) ?_
      rw [show zhr l b = nI 97 from (if_pos hb).trans (by rw [q97])]
      refine zw_istore1 hB dX6_readsStatement_4 rfl ?_
      refine zw_aload0 hB dX6_readsStatement_5 ?_
      refine zw_dup hB dX6_readsStatement_6 rfl ?_
      refine zw_getfV (x := nI b) hB dX6_readsStatement_7 zf_X6_95 rfl rfl hp ?_
      refine zw_iconst (x := nI 1) hB dX6_readsStatement_10 (by decide) ?_
      refine zw_iaddN hB dX6_readsStatement_11 ?_
      refine zw_putfI hB dX6_readsStatement_12 zfw_X6_95 rfl rfl ?_
      refine zw_iload1 hB dX6_readsStatement_15 ?_
      have o1_0 : ∀ c, c ≠ 50 → c ≠ 60 → (zC σ 50 (upd (σ 50) 12 (nI (b + 1)))) c = σ c := fun c h1 h2 => zC_n h1
      have o2_0 : ∀ i, i ≠ 12 → (zC σ 50 (upd (σ 50) 12 (nI (b + 1)))) 50 i = σ 50 i := fun i hi => by rw [zC_s]; exact zupd_o hi
      have p_0 : (zC σ 50 (upd (σ 50) 12 (nI (b + 1)))) 50 12 = nI (b + 1 + 0) := by rw [zC_s, zupd_s]
      refine zw_tabG (off := 177) (tgt := 193) hB dX6_readsStatement_16 (by decide) (by decide) (by decide) ?_
      refine zw_aload0 hB dX6_readsStatement_193 ?_
      refine zw_iconst (x := nI 0) hB dX6_readsStatement_194 (by decide) ?_
      refine zw_iconst (x := nI 1) hB dX6_readsStatement_195 (by decide) ?_
      refine zw_callV2 (M' := mX6_readsNumber) hB dX6_readsStatement_196 zl_X6_105 zg_X6_readsNumber (zRc.of rfl rfl rfl) (s_X6_readsNumber (l := l) ((o2_0 10 (by omega)).trans hL) h96 (by rw [o1_0 57 (by omega) (by omega)]; exact hA) hc (q := b + 1 + 0) (d := 1) (k := 0) (by omega) (by omega) (by omega) p_0) (fun v196 σ196 hq196 => ?_)
      obtain ⟨rfl, t1_196, t2_196, t3_196, t4_196, t5_196⟩ := hq196
      have o1_196 : ∀ c, c ≠ 50 → c ≠ 60 → σ196 c = σ c := fun c h1 h2 => (t1_196 c h1 h2).trans (o1_0 c h1 h2)
      have o2_196 : ∀ i, i ≠ 12 → σ196 50 i = σ 50 i := fun i hi => (t2_196 i hi).trans (o2_0 i hi)
      refine zw_if_eqB (tgt := 215) hB dX6_readsStatement_199 (by decide) (fun c199 => ?_) (fun c199 => ?_)
      · refine zw_iconst (x := nI 0) hB dX6_readsStatement_215 (by decide) ?_
        refine zw_istore2 hB dX6_readsStatement_216 (by first | rfl | assumption) ?_
        refine zw_goto (tgt := 288) hB dX6_readsStatement_217 (by decide) ?_
        refine zw_iload2 hB dX6_readsStatement_288 ?_
        refine zw_if_eq (tgt := 301) hB dX6_readsStatement_289 (by decide) (fun c289 => ?_) (fun c289 => by first | exact absurd (by decide) c289 | exact absurd c289 (by decide) | omega)
        refine zw_iconst (x := nI 0) hB dX6_readsStatement_301 (by decide) ?_
        refine zw_zret hB hR dX6_readsStatement_302 rfl (by decide) ?_
        obtain ⟨K1, K2, K3⟩ := zsx_D hc hb hs (m := 2) (by decide) (by decide) (by decide) (by decide)
        obtain ⟨i, hi, g1, g2, g3⟩ := t5_196 c199
        have hD : ∀ j, j < 0 + i → zdg l (b + 1 + j) := by
          intro j hj
          have z := g1 (j - 0) (by omega)
          rwa [show b + 1 + 0 + (j - 0) = b + 1 + j by omega] at z
        exact zRs_f o1_196 o2_196 (K1 (0 + i) (by omega) hD (by rw [← Nat.add_assoc]; exact g2)) (g3.trans (congrArg nI (by omega)))
      · have p_196 : σ196 50 12 = nI (b + 1 + 1) := (t4_196 c199).1.trans (congrArg nI (by omega))
        have v0_196 := (t4_196 c199).2
        refine zw_aload0 hB dX6_readsStatement_202 ?_
        refine zw_iconst (x := nI 1) hB dX6_readsStatement_203 (by decide) ?_
        refine zw_iconst (x := nI 1) hB dX6_readsStatement_204 (by decide) ?_
        refine zw_callV2 (M' := mX6_readsNumber) hB dX6_readsStatement_205 zl_X6_105 zg_X6_readsNumber (zRc.of rfl rfl rfl) (s_X6_readsNumber (l := l) ((o2_196 10 (by omega)).trans hL) h96 (by rw [o1_196 57 (by omega) (by omega)]; exact hA) hc (q := b + 1 + 1) (d := 1) (k := 1) (by omega) (by omega) (by omega) p_196) (fun v205 σ205 hq205 => ?_)
        obtain ⟨rfl, t1_205, t2_205, t3_205, t4_205, t5_205⟩ := hq205
        have o1_205 : ∀ c, c ≠ 50 → c ≠ 60 → σ205 c = σ c := fun c h1 h2 => (t1_205 c h1 h2).trans (o1_196 c h1 h2)
        have o2_205 : ∀ i, i ≠ 12 → σ205 50 i = σ 50 i := fun i hi => (t2_205 i hi).trans (o2_196 i hi)
        refine zw_if_eqB (tgt := 215) hB dX6_readsStatement_208 (by decide) (fun c208 => ?_) (fun c208 => ?_)
        · refine zw_iconst (x := nI 0) hB dX6_readsStatement_215 (by decide) ?_
          refine zw_istore2 hB dX6_readsStatement_216 (by first | rfl | assumption) ?_
          refine zw_goto (tgt := 288) hB dX6_readsStatement_217 (by decide) ?_
          refine zw_iload2 hB dX6_readsStatement_288 ?_
          refine zw_if_eq (tgt := 301) hB dX6_readsStatement_289 (by decide) (fun c289 => ?_) (fun c289 => by first | exact absurd (by decide) c289 | exact absurd c289 (by decide) | omega)
          refine zw_iconst (x := nI 0) hB dX6_readsStatement_301 (by decide) ?_
          refine zw_zret hB hR dX6_readsStatement_302 rfl (by decide) ?_
          obtain ⟨K1, K2, K3⟩ := zsx_D hc hb hs (m := 2) (by decide) (by decide) (by decide) (by decide)
          obtain ⟨i, hi, g1, g2, g3⟩ := t5_205 c208
          have hD : ∀ j, j < 1 + i → zdg l (b + 1 + j) := by
            intro j hj
            by_cases u196 : j < 1
            · have z := c199 (j - 0) (by omega)
              rwa [show b + 1 + 0 + (j - 0) = b + 1 + j by omega] at z
            have z := g1 (j - 1) (by omega)
            rwa [show b + 1 + 1 + (j - 1) = b + 1 + j by omega] at z
          exact zRs_f o1_205 o2_205 (K1 (1 + i) (by omega) hD (by rw [← Nat.add_assoc]; exact g2)) (g3.trans (congrArg nI (by omega)))
        · have p_205 : σ205 50 12 = nI (b + 1 + 2) := (t4_205 c208).1.trans (congrArg nI (by omega))
          have v1_205 := (t4_205 c208).2
          have v0_205 := (t3_205 0 (by omega)).trans v0_196
          refine zw_iconst (x := nI 1) hB dX6_readsStatement_211 (by decide) ?_
          refine zw_goto (tgt := 216) hB dX6_readsStatement_212 (by decide) ?_
          refine zw_istore2 hB dX6_readsStatement_216 (by first | rfl | assumption) ?_
          refine zw_goto (tgt := 288) hB dX6_readsStatement_217 (by decide) ?_
          refine zw_iload2 hB dX6_readsStatement_288 ?_
          refine zw_if_eq (tgt := 301) hB dX6_readsStatement_289 (by decide) (fun c289 => by first | exact absurd c289 (by decide) | exact absurd (by decide) c289 | omega) (fun c289 => ?_)
          refine zw_aload0 hB dX6_readsStatement_292 ?_
          refine zw_callV0P (M' := mX6_here) hB dX6_readsStatement_293 zl_X6_98 zg_X6_here (zRc.of rfl rfl rfl) (s_X6_here (l := l) ((o2_205 10 (by omega)).trans hL) h96 (by rw [o1_205 57 (by omega) (by omega)]; exact hA) hc (q := b + 1 + 2) (by omega) p_205) ?_
          refine zw_bipush (x := nI 59) hB dX6_readsStatement_296 (by decide) ?_
          refine zw_icmp_eq (tgt := 303) hB dX6_readsStatement_298 (by decide) (fun c298 => ?_) (fun c298 => ?_)
          · refine zw_aload0 hB dX6_readsStatement_303 ?_
            refine zw_dup hB dX6_readsStatement_304 rfl ?_
            refine zw_getfV (x := nI (b + 1 + 2)) hB dX6_readsStatement_305 zf_X6_95 rfl rfl (p_205) ?_
            refine zw_iconst (x := nI 1) hB dX6_readsStatement_308 (by decide) ?_
            refine zw_iaddN hB dX6_readsStatement_309 ?_
            refine zw_putfI hB dX6_readsStatement_310 zfw_X6_95 rfl rfl ?_
            refine zw_iconst (x := nI 1) hB dX6_readsStatement_313 (by decide) ?_
            refine zw_zret hB hR dX6_readsStatement_314 rfl (by decide) ?_
            obtain ⟨K1, K2, K3⟩ := zsx_D hc hb hs (m := 2) (by decide) (by decide) (by decide) (by decide)
            have hD : ∀ j, j < 2 → zdg l (b + 1 + j) := by
              intro j hj
              by_cases u196 : j < 1
              · have z := c199 (j - 0) (by omega)
                rwa [show b + 1 + 0 + (j - 0) = b + 1 + j by omega] at z
              by_cases u205 : j < 2
              · have z := c208 (j - 1) (by omega)
                rwa [show b + 1 + 1 + (j - 1) = b + 1 + j by omega] at z
              omega
            have K := K3 hD c298
            refine zRs_t (fun c h1 h2 => (zC_n h1).trans (o1_205 c h1 h2)) (fun i hi => (congrFun zC_s i).trans ((zupd_o hi).trans (o2_205 i hi))) K.1 (by rw [zC_s, zupd_s, K.2]) ?_
            have w0 : (zC σ205 50 (upd (σ205 50) 12 (nI (b + 1 + 2 + 1)))) 60 0 = _ := (congrFun (zC_n (by omega)) 0).trans (v0_205.trans (congrArg nI znm_1))
            have w1 : (zC σ205 50 (upd (σ205 50) 12 (nI (b + 1 + 2 + 1)))) 60 1 = _ := (congrFun (zC_n (by omega)) 1).trans (v1_205.trans (congrArg nI znm_1))
            refine ⟨fun z => absurd (qc.symm.trans z) (by decide), fun z => absurd (qc.symm.trans z) (by decide), fun _ => ⟨w0, w1⟩, fun z => absurd (qc.symm.trans z) (by decide), fun z => absurd (qc.symm.trans z) (by decide), fun z => absurd (qc.symm.trans z) (by decide), fun z => absurd (qc.symm.trans z) (by decide)⟩
          · refine zw_iconst (x := nI 0) hB dX6_readsStatement_301 (by decide) ?_
            refine zw_zret hB hR dX6_readsStatement_302 rfl (by decide) ?_
            obtain ⟨K1, K2, K3⟩ := zsx_D hc hb hs (m := 2) (by decide) (by decide) (by decide) (by decide)
            have hD : ∀ j, j < 2 → zdg l (b + 1 + j) := by
              intro j hj
              by_cases u196 : j < 1
              · have z := c199 (j - 0) (by omega)
                rwa [show b + 1 + 0 + (j - 0) = b + 1 + j by omega] at z
              by_cases u205 : j < 2
              · have z := c208 (j - 1) (by omega)
                rwa [show b + 1 + 1 + (j - 1) = b + 1 + j by omega] at z
              omega
            exact zRs_f o1_205 o2_205 (K2 hD c298) p_205
    by_cases q111 : zlc l b = 111
    · have qc := q111
      have hs : zsh (zlc l b) = 4 := by rw [qc]; decide
      refine zw_aload0 hB dX6_readsStatement_0 ?_
      refine zw_callV0P (M' := mX6_here) hB dX6_readsStatement_1 zl_X6_98 zg_X6_here (zRc.of rfl rfl rfl) (s_X6_here hL h96 hA hc (by omega) hp) ?_
      rw [show zhr l b = nI 111 from (if_pos hb).trans (by rw [q111])]
      refine zw_istore1 hB dX6_readsStatement_4 rfl ?_
      refine zw_aload0 hB dX6_readsStatement_5 ?_
      refine zw_dup hB dX6_readsStatement_6 rfl ?_
      refine zw_getfV (x := nI b) hB dX6_readsStatement_7 zf_X6_95 rfl rfl hp ?_
      refine zw_iconst (x := nI 1) hB dX6_readsStatement_10 (by decide) ?_
      refine zw_iaddN hB dX6_readsStatement_11 ?_
      refine zw_putfI hB dX6_readsStatement_12 zfw_X6_95 rfl rfl ?_
      refine zw_iload1 hB dX6_readsStatement_15 ?_
      have o1_0 : ∀ c, c ≠ 50 → c ≠ 60 → (zC σ 50 (upd (σ 50) 12 (nI (b + 1)))) c = σ c := fun c h1 h2 => zC_n h1
      have o2_0 : ∀ i, i ≠ 12 → (zC σ 50 (upd (σ 50) 12 (nI (b + 1)))) 50 i = σ 50 i := fun i hi => by rw [zC_s]; exact zupd_o hi
      have p_0 : (zC σ 50 (upd (σ 50) 12 (nI (b + 1)))) 50 12 = nI (b + 1 + 0) := by rw [zC_s, zupd_s]
      refine zw_tabG (off := 204) (tgt := 220) hB dX6_readsStatement_16 (by decide) (by decide) (by decide) ?_
      refine zw_aload0 hB dX6_readsStatement_220 ?_
      refine zw_iconst (x := nI 0) hB dX6_readsStatement_221 (by decide) ?_
      refine zw_iconst (x := nI 1) hB dX6_readsStatement_222 (by decide) ?_
      refine zw_callV2 (M' := mX6_readsNumber) hB dX6_readsStatement_223 zl_X6_105 zg_X6_readsNumber (zRc.of rfl rfl rfl) (s_X6_readsNumber (l := l) ((o2_0 10 (by omega)).trans hL) h96 (by rw [o1_0 57 (by omega) (by omega)]; exact hA) hc (q := b + 1 + 0) (d := 1) (k := 0) (by omega) (by omega) (by omega) p_0) (fun v223 σ223 hq223 => ?_)
      obtain ⟨rfl, t1_223, t2_223, t3_223, t4_223, t5_223⟩ := hq223
      have o1_223 : ∀ c, c ≠ 50 → c ≠ 60 → σ223 c = σ c := fun c h1 h2 => (t1_223 c h1 h2).trans (o1_0 c h1 h2)
      have o2_223 : ∀ i, i ≠ 12 → σ223 50 i = σ 50 i := fun i hi => (t2_223 i hi).trans (o2_0 i hi)
      refine zw_istore2 hB dX6_readsStatement_226 (by first | rfl | assumption) ?_
      refine zw_goto (tgt := 288) hB dX6_readsStatement_227 (by decide) ?_
      refine zw_iload2 hB dX6_readsStatement_288 ?_
      refine zw_if_eqB (tgt := 301) hB dX6_readsStatement_289 (by decide) (fun c289 => ?_) (fun c289 => ?_)
      · refine zw_iconst (x := nI 0) hB dX6_readsStatement_301 (by decide) ?_
        refine zw_zret hB hR dX6_readsStatement_302 rfl (by decide) ?_
        obtain ⟨K1, K2, K3⟩ := zsx_D hc hb hs (m := 1) (by decide) (by decide) (by decide) (by decide)
        obtain ⟨i, hi, g1, g2, g3⟩ := t5_223 c289
        have hD : ∀ j, j < 0 + i → zdg l (b + 1 + j) := by
          intro j hj
          have z := g1 (j - 0) (by omega)
          rwa [show b + 1 + 0 + (j - 0) = b + 1 + j by omega] at z
        exact zRs_f o1_223 o2_223 (K1 (0 + i) (by omega) hD (by rw [← Nat.add_assoc]; exact g2)) (g3.trans (congrArg nI (by omega)))
      · have p_223 : σ223 50 12 = nI (b + 1 + 1) := (t4_223 c289).1.trans (congrArg nI (by omega))
        have v0_223 := (t4_223 c289).2
        refine zw_aload0 hB dX6_readsStatement_292 ?_
        refine zw_callV0P (M' := mX6_here) hB dX6_readsStatement_293 zl_X6_98 zg_X6_here (zRc.of rfl rfl rfl) (s_X6_here (l := l) ((o2_223 10 (by omega)).trans hL) h96 (by rw [o1_223 57 (by omega) (by omega)]; exact hA) hc (q := b + 1 + 1) (by omega) p_223) ?_
        refine zw_bipush (x := nI 59) hB dX6_readsStatement_296 (by decide) ?_
        refine zw_icmp_eq (tgt := 303) hB dX6_readsStatement_298 (by decide) (fun c298 => ?_) (fun c298 => ?_)
        · refine zw_aload0 hB dX6_readsStatement_303 ?_
          refine zw_dup hB dX6_readsStatement_304 rfl ?_
          refine zw_getfV (x := nI (b + 1 + 1)) hB dX6_readsStatement_305 zf_X6_95 rfl rfl (p_223) ?_
          refine zw_iconst (x := nI 1) hB dX6_readsStatement_308 (by decide) ?_
          refine zw_iaddN hB dX6_readsStatement_309 ?_
          refine zw_putfI hB dX6_readsStatement_310 zfw_X6_95 rfl rfl ?_
          refine zw_iconst (x := nI 1) hB dX6_readsStatement_313 (by decide) ?_
          refine zw_zret hB hR dX6_readsStatement_314 rfl (by decide) ?_
          obtain ⟨K1, K2, K3⟩ := zsx_D hc hb hs (m := 1) (by decide) (by decide) (by decide) (by decide)
          have hD : ∀ j, j < 1 → zdg l (b + 1 + j) := by
            intro j hj
            by_cases u223 : j < 1
            · have z := c289 (j - 0) (by omega)
              rwa [show b + 1 + 0 + (j - 0) = b + 1 + j by omega] at z
            omega
          have K := K3 hD c298
          refine zRs_t (fun c h1 h2 => (zC_n h1).trans (o1_223 c h1 h2)) (fun i hi => (congrFun zC_s i).trans ((zupd_o hi).trans (o2_223 i hi))) K.1 (by rw [zC_s, zupd_s, K.2]) ?_
          have w0 : (zC σ223 50 (upd (σ223 50) 12 (nI (b + 1 + 1 + 1)))) 60 0 = _ := (congrFun (zC_n (by omega)) 0).trans (v0_223.trans (congrArg nI znm_1))
          refine ⟨fun z => absurd (qc.symm.trans z) (by decide), fun z => absurd (qc.symm.trans z) (by decide), fun z => absurd (qc.symm.trans z) (by decide), fun _ => w0, fun z => absurd (qc.symm.trans z) (by decide), fun z => absurd (qc.symm.trans z) (by decide), fun z => absurd (qc.symm.trans z) (by decide)⟩
        · refine zw_iconst (x := nI 0) hB dX6_readsStatement_301 (by decide) ?_
          refine zw_zret hB hR dX6_readsStatement_302 rfl (by decide) ?_
          obtain ⟨K1, K2, K3⟩ := zsx_D hc hb hs (m := 1) (by decide) (by decide) (by decide) (by decide)
          have hD : ∀ j, j < 1 → zdg l (b + 1 + j) := by
            intro j hj
            by_cases u223 : j < 1
            · have z := c289 (j - 0) (by omega)
              rwa [show b + 1 + 0 + (j - 0) = b + 1 + j by omega] at z
            omega
          exact zRs_f o1_223 o2_223 (K2 hD c298) p_223
    by_cases q115 : zlc l b = 115
    · have qc := q115
      have hs : zsh (zlc l b) = 4 := by rw [qc]; decide
      refine zw_aload0 hB dX6_readsStatement_0 ?_
      refine zw_callV0P (M' := mX6_here) hB dX6_readsStatement_1 zl_X6_98 zg_X6_here (zRc.of rfl rfl rfl) (s_X6_here hL h96 hA hc (by omega) hp) ?_
      rw [show zhr l b = nI 115 from (if_pos hb).trans (by rw [q115])]
      refine zw_istore1 hB dX6_readsStatement_4 rfl ?_
      refine zw_aload0 hB dX6_readsStatement_5 ?_
      refine zw_dup hB dX6_readsStatement_6 rfl ?_
      refine zw_getfV (x := nI b) hB dX6_readsStatement_7 zf_X6_95 rfl rfl hp ?_
      refine zw_iconst (x := nI 1) hB dX6_readsStatement_10 (by decide) ?_
      refine zw_iaddN hB dX6_readsStatement_11 ?_
      refine zw_putfI hB dX6_readsStatement_12 zfw_X6_95 rfl rfl ?_
      refine zw_iload1 hB dX6_readsStatement_15 ?_
      have o1_0 : ∀ c, c ≠ 50 → c ≠ 60 → (zC σ 50 (upd (σ 50) 12 (nI (b + 1)))) c = σ c := fun c h1 h2 => zC_n h1
      have o2_0 : ∀ i, i ≠ 12 → (zC σ 50 (upd (σ 50) 12 (nI (b + 1)))) 50 i = σ 50 i := fun i hi => by rw [zC_s]; exact zupd_o hi
      have p_0 : (zC σ 50 (upd (σ 50) 12 (nI (b + 1)))) 50 12 = nI (b + 1 + 0) := by rw [zC_s, zupd_s]
      refine zw_tabG (off := 204) (tgt := 220) hB dX6_readsStatement_16 (by decide) (by decide) (by decide) ?_
      refine zw_aload0 hB dX6_readsStatement_220 ?_
      refine zw_iconst (x := nI 0) hB dX6_readsStatement_221 (by decide) ?_
      refine zw_iconst (x := nI 1) hB dX6_readsStatement_222 (by decide) ?_
      refine zw_callV2 (M' := mX6_readsNumber) hB dX6_readsStatement_223 zl_X6_105 zg_X6_readsNumber (zRc.of rfl rfl rfl) (s_X6_readsNumber (l := l) ((o2_0 10 (by omega)).trans hL) h96 (by rw [o1_0 57 (by omega) (by omega)]; exact hA) hc (q := b + 1 + 0) (d := 1) (k := 0) (by omega) (by omega) (by omega) p_0) (fun v223 σ223 hq223 => ?_)
      obtain ⟨rfl, t1_223, t2_223, t3_223, t4_223, t5_223⟩ := hq223
      have o1_223 : ∀ c, c ≠ 50 → c ≠ 60 → σ223 c = σ c := fun c h1 h2 => (t1_223 c h1 h2).trans (o1_0 c h1 h2)
      have o2_223 : ∀ i, i ≠ 12 → σ223 50 i = σ 50 i := fun i hi => (t2_223 i hi).trans (o2_0 i hi)
      refine zw_istore2 hB dX6_readsStatement_226 (by first | rfl | assumption) ?_
      refine zw_goto (tgt := 288) hB dX6_readsStatement_227 (by decide) ?_
      refine zw_iload2 hB dX6_readsStatement_288 ?_
      refine zw_if_eqB (tgt := 301) hB dX6_readsStatement_289 (by decide) (fun c289 => ?_) (fun c289 => ?_)
      · refine zw_iconst (x := nI 0) hB dX6_readsStatement_301 (by decide) ?_
        refine zw_zret hB hR dX6_readsStatement_302 rfl (by decide) ?_
        obtain ⟨K1, K2, K3⟩ := zsx_D hc hb hs (m := 1) (by decide) (by decide) (by decide) (by decide)
        obtain ⟨i, hi, g1, g2, g3⟩ := t5_223 c289
        have hD : ∀ j, j < 0 + i → zdg l (b + 1 + j) := by
          intro j hj
          have z := g1 (j - 0) (by omega)
          rwa [show b + 1 + 0 + (j - 0) = b + 1 + j by omega] at z
        exact zRs_f o1_223 o2_223 (K1 (0 + i) (by omega) hD (by rw [← Nat.add_assoc]; exact g2)) (g3.trans (congrArg nI (by omega)))
      · have p_223 : σ223 50 12 = nI (b + 1 + 1) := (t4_223 c289).1.trans (congrArg nI (by omega))
        have v0_223 := (t4_223 c289).2
        refine zw_aload0 hB dX6_readsStatement_292 ?_
        refine zw_callV0P (M' := mX6_here) hB dX6_readsStatement_293 zl_X6_98 zg_X6_here (zRc.of rfl rfl rfl) (s_X6_here (l := l) ((o2_223 10 (by omega)).trans hL) h96 (by rw [o1_223 57 (by omega) (by omega)]; exact hA) hc (q := b + 1 + 1) (by omega) p_223) ?_
        refine zw_bipush (x := nI 59) hB dX6_readsStatement_296 (by decide) ?_
        refine zw_icmp_eq (tgt := 303) hB dX6_readsStatement_298 (by decide) (fun c298 => ?_) (fun c298 => ?_)
        · refine zw_aload0 hB dX6_readsStatement_303 ?_
          refine zw_dup hB dX6_readsStatement_304 rfl ?_
          refine zw_getfV (x := nI (b + 1 + 1)) hB dX6_readsStatement_305 zf_X6_95 rfl rfl (p_223) ?_
          refine zw_iconst (x := nI 1) hB dX6_readsStatement_308 (by decide) ?_
          refine zw_iaddN hB dX6_readsStatement_309 ?_
          refine zw_putfI hB dX6_readsStatement_310 zfw_X6_95 rfl rfl ?_
          refine zw_iconst (x := nI 1) hB dX6_readsStatement_313 (by decide) ?_
          refine zw_zret hB hR dX6_readsStatement_314 rfl (by decide) ?_
          obtain ⟨K1, K2, K3⟩ := zsx_D hc hb hs (m := 1) (by decide) (by decide) (by decide) (by decide)
          have hD : ∀ j, j < 1 → zdg l (b + 1 + j) := by
            intro j hj
            by_cases u223 : j < 1
            · have z := c289 (j - 0) (by omega)
              rwa [show b + 1 + 0 + (j - 0) = b + 1 + j by omega] at z
            omega
          have K := K3 hD c298
          refine zRs_t (fun c h1 h2 => (zC_n h1).trans (o1_223 c h1 h2)) (fun i hi => (congrFun zC_s i).trans ((zupd_o hi).trans (o2_223 i hi))) K.1 (by rw [zC_s, zupd_s, K.2]) ?_
          have w0 : (zC σ223 50 (upd (σ223 50) 12 (nI (b + 1 + 1 + 1)))) 60 0 = _ := (congrFun (zC_n (by omega)) 0).trans (v0_223.trans (congrArg nI znm_1))
          refine ⟨fun z => absurd (qc.symm.trans z) (by decide), fun z => absurd (qc.symm.trans z) (by decide), fun z => absurd (qc.symm.trans z) (by decide), fun z => absurd (qc.symm.trans z) (by decide), fun _ => w0, fun z => absurd (qc.symm.trans z) (by decide), fun z => absurd (qc.symm.trans z) (by decide)⟩
        · refine zw_iconst (x := nI 0) hB dX6_readsStatement_301 (by decide) ?_
          refine zw_zret hB hR dX6_readsStatement_302 rfl (by decide) ?_
          obtain ⟨K1, K2, K3⟩ := zsx_D hc hb hs (m := 1) (by decide) (by decide) (by decide) (by decide)
          have hD : ∀ j, j < 1 → zdg l (b + 1 + j) := by
            intro j hj
            by_cases u223 : j < 1
            · have z := c289 (j - 0) (by omega)
              rwa [show b + 1 + 0 + (j - 0) = b + 1 + j by omega] at z
            omega
          exact zRs_f o1_223 o2_223 (K2 hD c298) p_223
    by_cases q104 : zlc l b = 104
    · have qc := q104
      have hs : zsh (zlc l b) = 5 := by rw [qc]; decide
      refine zw_aload0 hB dX6_readsStatement_0 ?_
      refine zw_callV0P (M' := mX6_here) hB dX6_readsStatement_1 zl_X6_98 zg_X6_here (zRc.of rfl rfl rfl) (s_X6_here hL h96 hA hc (by omega) hp) ?_
      rw [show zhr l b = nI 104 from (if_pos hb).trans (by rw [q104])]
      refine zw_istore1 hB dX6_readsStatement_4 rfl ?_
      refine zw_aload0 hB dX6_readsStatement_5 ?_
      refine zw_dup hB dX6_readsStatement_6 rfl ?_
      refine zw_getfV (x := nI b) hB dX6_readsStatement_7 zf_X6_95 rfl rfl hp ?_
      refine zw_iconst (x := nI 1) hB dX6_readsStatement_10 (by decide) ?_
      refine zw_iaddN hB dX6_readsStatement_11 ?_
      refine zw_putfI hB dX6_readsStatement_12 zfw_X6_95 rfl rfl ?_
      refine zw_iload1 hB dX6_readsStatement_15 ?_
      have o1_0 : ∀ c, c ≠ 50 → c ≠ 60 → (zC σ 50 (upd (σ 50) 12 (nI (b + 1)))) c = σ c := fun c h1 h2 => zC_n h1
      have o2_0 : ∀ i, i ≠ 12 → (zC σ 50 (upd (σ 50) 12 (nI (b + 1)))) 50 i = σ 50 i := fun i hi => by rw [zC_s]; exact zupd_o hi
      have p_0 : (zC σ 50 (upd (σ 50) 12 (nI (b + 1)))) 50 12 = nI (b + 1 + 0) := by rw [zC_s, zupd_s]
      refine zw_tabG (off := 214) (tgt := 230) hB dX6_readsStatement_16 (by decide) (by decide) (by decide) ?_
      refine zw_aload0 hB dX6_readsStatement_230 ?_
      refine zw_iconst (x := nI 0) hB dX6_readsStatement_231 (by decide) ?_
      refine zw_iconst (x := nI 1) hB dX6_readsStatement_232 (by decide) ?_
      refine zw_callV2 (M' := mX6_readsNumber) hB dX6_readsStatement_233 zl_X6_105 zg_X6_readsNumber (zRc.of rfl rfl rfl) (s_X6_readsNumber (l := l) ((o2_0 10 (by omega)).trans hL) h96 (by rw [o1_0 57 (by omega) (by omega)]; exact hA) hc (q := b + 1 + 0) (d := 1) (k := 0) (by omega) (by omega) (by omega) p_0) (fun v233 σ233 hq233 => ?_)
      obtain ⟨rfl, t1_233, t2_233, t3_233, t4_233, t5_233⟩ := hq233
      have o1_233 : ∀ c, c ≠ 50 → c ≠ 60 → σ233 c = σ c := fun c h1 h2 => (t1_233 c h1 h2).trans (o1_0 c h1 h2)
      have o2_233 : ∀ i, i ≠ 12 → σ233 50 i = σ 50 i := fun i hi => (t2_233 i hi).trans (o2_0 i hi)
      refine zw_if_eqB (tgt := 261) hB dX6_readsStatement_236 (by decide) (fun c236 => ?_) (fun c236 => ?_)
      · refine zw_iconst (x := nI 0) hB dX6_readsStatement_261 (by decide) ?_
        refine zw_istore2 hB dX6_readsStatement_262 (by first | rfl | assumption) ?_
        refine zw_goto (tgt := 288) hB dX6_readsStatement_263 (by decide) ?_
        refine zw_iload2 hB dX6_readsStatement_288 ?_
        refine zw_if_eq (tgt := 301) hB dX6_readsStatement_289 (by decide) (fun c289 => ?_) (fun c289 => by first | exact absurd (by decide) c289 | exact absurd c289 (by decide) | omega)
        refine zw_iconst (x := nI 0) hB dX6_readsStatement_301 (by decide) ?_
        refine zw_zret hB hR dX6_readsStatement_302 rfl (by decide) ?_
        obtain ⟨K1, K2, K3⟩ := zsx_D hc hb hs (m := 4) (by decide) (by decide) (by decide) (by decide)
        obtain ⟨i, hi, g1, g2, g3⟩ := t5_233 c236
        have hD : ∀ j, j < 0 + i → zdg l (b + 1 + j) := by
          intro j hj
          have z := g1 (j - 0) (by omega)
          rwa [show b + 1 + 0 + (j - 0) = b + 1 + j by omega] at z
        exact zRs_f o1_233 o2_233 (K1 (0 + i) (by omega) hD (by rw [← Nat.add_assoc]; exact g2)) (g3.trans (congrArg nI (by omega)))
      · have p_233 : σ233 50 12 = nI (b + 1 + 1) := (t4_233 c236).1.trans (congrArg nI (by omega))
        have v0_233 := (t4_233 c236).2
        refine zw_aload0 hB dX6_readsStatement_239 ?_
        refine zw_iconst (x := nI 1) hB dX6_readsStatement_240 (by decide) ?_
        refine zw_iconst (x := nI 1) hB dX6_readsStatement_241 (by decide) ?_
        refine zw_callV2 (M' := mX6_readsNumber) hB dX6_readsStatement_242 zl_X6_105 zg_X6_readsNumber (zRc.of rfl rfl rfl) (s_X6_readsNumber (l := l) ((o2_233 10 (by omega)).trans hL) h96 (by rw [o1_233 57 (by omega) (by omega)]; exact hA) hc (q := b + 1 + 1) (d := 1) (k := 1) (by omega) (by omega) (by omega) p_233) (fun v242 σ242 hq242 => ?_)
        obtain ⟨rfl, t1_242, t2_242, t3_242, t4_242, t5_242⟩ := hq242
        have o1_242 : ∀ c, c ≠ 50 → c ≠ 60 → σ242 c = σ c := fun c h1 h2 => (t1_242 c h1 h2).trans (o1_233 c h1 h2)
        have o2_242 : ∀ i, i ≠ 12 → σ242 50 i = σ 50 i := fun i hi => (t2_242 i hi).trans (o2_233 i hi)
        refine zw_if_eqB (tgt := 261) hB dX6_readsStatement_245 (by decide) (fun c245 => ?_) (fun c245 => ?_)
        · refine zw_iconst (x := nI 0) hB dX6_readsStatement_261 (by decide) ?_
          refine zw_istore2 hB dX6_readsStatement_262 (by first | rfl | assumption) ?_
          refine zw_goto (tgt := 288) hB dX6_readsStatement_263 (by decide) ?_
          refine zw_iload2 hB dX6_readsStatement_288 ?_
          refine zw_if_eq (tgt := 301) hB dX6_readsStatement_289 (by decide) (fun c289 => ?_) (fun c289 => by first | exact absurd (by decide) c289 | exact absurd c289 (by decide) | omega)
          refine zw_iconst (x := nI 0) hB dX6_readsStatement_301 (by decide) ?_
          refine zw_zret hB hR dX6_readsStatement_302 rfl (by decide) ?_
          obtain ⟨K1, K2, K3⟩ := zsx_D hc hb hs (m := 4) (by decide) (by decide) (by decide) (by decide)
          obtain ⟨i, hi, g1, g2, g3⟩ := t5_242 c245
          have hD : ∀ j, j < 1 + i → zdg l (b + 1 + j) := by
            intro j hj
            by_cases u233 : j < 1
            · have z := c236 (j - 0) (by omega)
              rwa [show b + 1 + 0 + (j - 0) = b + 1 + j by omega] at z
            have z := g1 (j - 1) (by omega)
            rwa [show b + 1 + 1 + (j - 1) = b + 1 + j by omega] at z
          exact zRs_f o1_242 o2_242 (K1 (1 + i) (by omega) hD (by rw [← Nat.add_assoc]; exact g2)) (g3.trans (congrArg nI (by omega)))
        · have p_242 : σ242 50 12 = nI (b + 1 + 2) := (t4_242 c245).1.trans (congrArg nI (by omega))
          have v1_242 := (t4_242 c245).2
          have v0_242 := (t3_242 0 (by omega)).trans v0_233
          refine zw_aload0 hB dX6_readsStatement_248 ?_
          refine zw_iconst (x := nI 2) hB dX6_readsStatement_249 (by decide) ?_
          refine zw_iconst (x := nI 2) hB dX6_readsStatement_250 (by decide) ?_
          refine zw_callV2 (M' := mX6_readsNumber) hB dX6_readsStatement_251 zl_X6_105 zg_X6_readsNumber (zRc.of rfl rfl rfl) (s_X6_readsNumber (l := l) ((o2_242 10 (by omega)).trans hL) h96 (by rw [o1_242 57 (by omega) (by omega)]; exact hA) hc (q := b + 1 + 2) (d := 2) (k := 2) (by omega) (by omega) (by omega) p_242) (fun v251 σ251 hq251 => ?_)
          obtain ⟨rfl, t1_251, t2_251, t3_251, t4_251, t5_251⟩ := hq251
          have o1_251 : ∀ c, c ≠ 50 → c ≠ 60 → σ251 c = σ c := fun c h1 h2 => (t1_251 c h1 h2).trans (o1_242 c h1 h2)
          have o2_251 : ∀ i, i ≠ 12 → σ251 50 i = σ 50 i := fun i hi => (t2_251 i hi).trans (o2_242 i hi)
          refine zw_if_eqB (tgt := 261) hB dX6_readsStatement_254 (by decide) (fun c254 => ?_) (fun c254 => ?_)
          · refine zw_iconst (x := nI 0) hB dX6_readsStatement_261 (by decide) ?_
            refine zw_istore2 hB dX6_readsStatement_262 (by first | rfl | assumption) ?_
            refine zw_goto (tgt := 288) hB dX6_readsStatement_263 (by decide) ?_
            refine zw_iload2 hB dX6_readsStatement_288 ?_
            refine zw_if_eq (tgt := 301) hB dX6_readsStatement_289 (by decide) (fun c289 => ?_) (fun c289 => by first | exact absurd (by decide) c289 | exact absurd c289 (by decide) | omega)
            refine zw_iconst (x := nI 0) hB dX6_readsStatement_301 (by decide) ?_
            refine zw_zret hB hR dX6_readsStatement_302 rfl (by decide) ?_
            obtain ⟨K1, K2, K3⟩ := zsx_D hc hb hs (m := 4) (by decide) (by decide) (by decide) (by decide)
            obtain ⟨i, hi, g1, g2, g3⟩ := t5_251 c254
            have hD : ∀ j, j < 2 + i → zdg l (b + 1 + j) := by
              intro j hj
              by_cases u233 : j < 1
              · have z := c236 (j - 0) (by omega)
                rwa [show b + 1 + 0 + (j - 0) = b + 1 + j by omega] at z
              by_cases u242 : j < 2
              · have z := c245 (j - 1) (by omega)
                rwa [show b + 1 + 1 + (j - 1) = b + 1 + j by omega] at z
              have z := g1 (j - 2) (by omega)
              rwa [show b + 1 + 2 + (j - 2) = b + 1 + j by omega] at z
            exact zRs_f o1_251 o2_251 (K1 (2 + i) (by omega) hD (by rw [← Nat.add_assoc]; exact g2)) (g3.trans (congrArg nI (by omega)))
          · have p_251 : σ251 50 12 = nI (b + 1 + 4) := (t4_251 c254).1.trans (congrArg nI (by omega))
            have v2_251 := (t4_251 c254).2
            have v0_251 := (t3_251 0 (by omega)).trans v0_242
            have v1_251 := (t3_251 1 (by omega)).trans v1_242
            refine zw_iconst (x := nI 1) hB dX6_readsStatement_257 (by decide) ?_
            refine zw_goto (tgt := 262) hB dX6_readsStatement_258 (by decide) ?_
            refine zw_istore2 hB dX6_readsStatement_262 (by first | rfl | assumption) ?_
            refine zw_goto (tgt := 288) hB dX6_readsStatement_263 (by decide) ?_
            refine zw_iload2 hB dX6_readsStatement_288 ?_
            refine zw_if_eq (tgt := 301) hB dX6_readsStatement_289 (by decide) (fun c289 => by first | exact absurd c289 (by decide) | exact absurd (by decide) c289 | omega) (fun c289 => ?_)
            refine zw_aload0 hB dX6_readsStatement_292 ?_
            refine zw_callV0P (M' := mX6_here) hB dX6_readsStatement_293 zl_X6_98 zg_X6_here (zRc.of rfl rfl rfl) (s_X6_here (l := l) ((o2_251 10 (by omega)).trans hL) h96 (by rw [o1_251 57 (by omega) (by omega)]; exact hA) hc (q := b + 1 + 4) (by omega) p_251) ?_
            refine zw_bipush (x := nI 59) hB dX6_readsStatement_296 (by decide) ?_
            refine zw_icmp_eq (tgt := 303) hB dX6_readsStatement_298 (by decide) (fun c298 => ?_) (fun c298 => ?_)
            · refine zw_aload0 hB dX6_readsStatement_303 ?_
              refine zw_dup hB dX6_readsStatement_304 rfl ?_
              refine zw_getfV (x := nI (b + 1 + 4)) hB dX6_readsStatement_305 zf_X6_95 rfl rfl (p_251) ?_
              refine zw_iconst (x := nI 1) hB dX6_readsStatement_308 (by decide) ?_
              refine zw_iaddN hB dX6_readsStatement_309 ?_
              refine zw_putfI hB dX6_readsStatement_310 zfw_X6_95 rfl rfl ?_
              refine zw_iconst (x := nI 1) hB dX6_readsStatement_313 (by decide) ?_
              refine zw_zret hB hR dX6_readsStatement_314 rfl (by decide) ?_
              obtain ⟨K1, K2, K3⟩ := zsx_D hc hb hs (m := 4) (by decide) (by decide) (by decide) (by decide)
              have hD : ∀ j, j < 4 → zdg l (b + 1 + j) := by
                intro j hj
                by_cases u233 : j < 1
                · have z := c236 (j - 0) (by omega)
                  rwa [show b + 1 + 0 + (j - 0) = b + 1 + j by omega] at z
                by_cases u242 : j < 2
                · have z := c245 (j - 1) (by omega)
                  rwa [show b + 1 + 1 + (j - 1) = b + 1 + j by omega] at z
                by_cases u251 : j < 4
                · have z := c254 (j - 2) (by omega)
                  rwa [show b + 1 + 2 + (j - 2) = b + 1 + j by omega] at z
                omega
              have K := K3 hD c298
              refine zRs_t (fun c h1 h2 => (zC_n h1).trans (o1_251 c h1 h2)) (fun i hi => (congrFun zC_s i).trans ((zupd_o hi).trans (o2_251 i hi))) K.1 (by rw [zC_s, zupd_s, K.2]) ?_
              have w0 : (zC σ251 50 (upd (σ251 50) 12 (nI (b + 1 + 4 + 1)))) 60 0 = _ := (congrFun (zC_n (by omega)) 0).trans (v0_251.trans (congrArg nI znm_1))
              have w1 : (zC σ251 50 (upd (σ251 50) 12 (nI (b + 1 + 4 + 1)))) 60 1 = _ := (congrFun (zC_n (by omega)) 1).trans (v1_251.trans (congrArg nI znm_1))
              have w2 : (zC σ251 50 (upd (σ251 50) 12 (nI (b + 1 + 4 + 1)))) 60 2 = _ := (congrFun (zC_n (by omega)) 2).trans (v2_251.trans (congrArg nI znm_2))
              refine ⟨fun z => absurd (qc.symm.trans z) (by decide), fun z => absurd (qc.symm.trans z) (by decide), fun z => absurd (qc.symm.trans z) (by decide), fun z => absurd (qc.symm.trans z) (by decide), fun z => absurd (qc.symm.trans z) (by decide), fun _ => ⟨w0, w1, w2⟩, fun z => absurd (qc.symm.trans z) (by decide)⟩
            · refine zw_iconst (x := nI 0) hB dX6_readsStatement_301 (by decide) ?_
              refine zw_zret hB hR dX6_readsStatement_302 rfl (by decide) ?_
              obtain ⟨K1, K2, K3⟩ := zsx_D hc hb hs (m := 4) (by decide) (by decide) (by decide) (by decide)
              have hD : ∀ j, j < 4 → zdg l (b + 1 + j) := by
                intro j hj
                by_cases u233 : j < 1
                · have z := c236 (j - 0) (by omega)
                  rwa [show b + 1 + 0 + (j - 0) = b + 1 + j by omega] at z
                by_cases u242 : j < 2
                · have z := c245 (j - 1) (by omega)
                  rwa [show b + 1 + 1 + (j - 1) = b + 1 + j by omega] at z
                by_cases u251 : j < 4
                · have z := c254 (j - 2) (by omega)
                  rwa [show b + 1 + 2 + (j - 2) = b + 1 + j by omega] at z
                omega
              exact zRs_f o1_251 o2_251 (K2 hD c298) p_251
    by_cases q121 : zlc l b = 121
    · have qc := q121
      have hs : zsh (zlc l b) = 3 := by rw [qc]; decide
      refine zw_aload0 hB dX6_readsStatement_0 ?_
      refine zw_callV0P (M' := mX6_here) hB dX6_readsStatement_1 zl_X6_98 zg_X6_here (zRc.of rfl rfl rfl) (s_X6_here hL h96 hA hc (by omega) hp) ?_
      rw [show zhr l b = nI 121 from (if_pos hb).trans (by rw [q121])]
      refine zw_istore1 hB dX6_readsStatement_4 rfl ?_
      refine zw_aload0 hB dX6_readsStatement_5 ?_
      refine zw_dup hB dX6_readsStatement_6 rfl ?_
      refine zw_getfV (x := nI b) hB dX6_readsStatement_7 zf_X6_95 rfl rfl hp ?_
      refine zw_iconst (x := nI 1) hB dX6_readsStatement_10 (by decide) ?_
      refine zw_iaddN hB dX6_readsStatement_11 ?_
      refine zw_putfI hB dX6_readsStatement_12 zfw_X6_95 rfl rfl ?_
      refine zw_iload1 hB dX6_readsStatement_15 ?_
      have o1_0 : ∀ c, c ≠ 50 → c ≠ 60 → (zC σ 50 (upd (σ 50) 12 (nI (b + 1)))) c = σ c := fun c h1 h2 => zC_n h1
      have o2_0 : ∀ i, i ≠ 12 → (zC σ 50 (upd (σ 50) 12 (nI (b + 1)))) 50 i = σ 50 i := fun i hi => by rw [zC_s]; exact zupd_o hi
      have p_0 : (zC σ 50 (upd (σ 50) 12 (nI (b + 1)))) 50 12 = nI (b + 1 + 0) := by rw [zC_s, zupd_s]
      refine zw_tabG (off := 250) (tgt := 266) hB dX6_readsStatement_16 (by decide) (by decide) (by decide) ?_
      refine zw_aload0 hB dX6_readsStatement_266 ?_
      refine zw_iconst (x := nI 0) hB dX6_readsStatement_267 (by decide) ?_
      refine zw_iconst (x := nI 2) hB dX6_readsStatement_268 (by decide) ?_
      refine zw_callV2 (M' := mX6_readsNumber) hB dX6_readsStatement_269 zl_X6_105 zg_X6_readsNumber (zRc.of rfl rfl rfl) (s_X6_readsNumber (l := l) ((o2_0 10 (by omega)).trans hL) h96 (by rw [o1_0 57 (by omega) (by omega)]; exact hA) hc (q := b + 1 + 0) (d := 2) (k := 0) (by omega) (by omega) (by omega) p_0) (fun v269 σ269 hq269 => ?_)
      obtain ⟨rfl, t1_269, t2_269, t3_269, t4_269, t5_269⟩ := hq269
      have o1_269 : ∀ c, c ≠ 50 → c ≠ 60 → σ269 c = σ c := fun c h1 h2 => (t1_269 c h1 h2).trans (o1_0 c h1 h2)
      have o2_269 : ∀ i, i ≠ 12 → σ269 50 i = σ 50 i := fun i hi => (t2_269 i hi).trans (o2_0 i hi)
      refine zw_istore2 hB dX6_readsStatement_272 (by first | rfl | assumption) ?_
      refine zw_goto (tgt := 288) hB dX6_readsStatement_273 (by decide) ?_
      refine zw_iload2 hB dX6_readsStatement_288 ?_
      refine zw_if_eqB (tgt := 301) hB dX6_readsStatement_289 (by decide) (fun c289 => ?_) (fun c289 => ?_)
      · refine zw_iconst (x := nI 0) hB dX6_readsStatement_301 (by decide) ?_
        refine zw_zret hB hR dX6_readsStatement_302 rfl (by decide) ?_
        obtain ⟨K1, K2, K3⟩ := zsx_D hc hb hs (m := 2) (by decide) (by decide) (by decide) (by decide)
        obtain ⟨i, hi, g1, g2, g3⟩ := t5_269 c289
        have hD : ∀ j, j < 0 + i → zdg l (b + 1 + j) := by
          intro j hj
          have z := g1 (j - 0) (by omega)
          rwa [show b + 1 + 0 + (j - 0) = b + 1 + j by omega] at z
        exact zRs_f o1_269 o2_269 (K1 (0 + i) (by omega) hD (by rw [← Nat.add_assoc]; exact g2)) (g3.trans (congrArg nI (by omega)))
      · have p_269 : σ269 50 12 = nI (b + 1 + 2) := (t4_269 c289).1.trans (congrArg nI (by omega))
        have v0_269 := (t4_269 c289).2
        refine zw_aload0 hB dX6_readsStatement_292 ?_
        refine zw_callV0P (M' := mX6_here) hB dX6_readsStatement_293 zl_X6_98 zg_X6_here (zRc.of rfl rfl rfl) (s_X6_here (l := l) ((o2_269 10 (by omega)).trans hL) h96 (by rw [o1_269 57 (by omega) (by omega)]; exact hA) hc (q := b + 1 + 2) (by omega) p_269) ?_
        refine zw_bipush (x := nI 59) hB dX6_readsStatement_296 (by decide) ?_
        refine zw_icmp_eq (tgt := 303) hB dX6_readsStatement_298 (by decide) (fun c298 => ?_) (fun c298 => ?_)
        · refine zw_aload0 hB dX6_readsStatement_303 ?_
          refine zw_dup hB dX6_readsStatement_304 rfl ?_
          refine zw_getfV (x := nI (b + 1 + 2)) hB dX6_readsStatement_305 zf_X6_95 rfl rfl (p_269) ?_
          refine zw_iconst (x := nI 1) hB dX6_readsStatement_308 (by decide) ?_
          refine zw_iaddN hB dX6_readsStatement_309 ?_
          refine zw_putfI hB dX6_readsStatement_310 zfw_X6_95 rfl rfl ?_
          refine zw_iconst (x := nI 1) hB dX6_readsStatement_313 (by decide) ?_
          refine zw_zret hB hR dX6_readsStatement_314 rfl (by decide) ?_
          obtain ⟨K1, K2, K3⟩ := zsx_D hc hb hs (m := 2) (by decide) (by decide) (by decide) (by decide)
          have hD : ∀ j, j < 2 → zdg l (b + 1 + j) := by
            intro j hj
            by_cases u269 : j < 2
            · have z := c289 (j - 0) (by omega)
              rwa [show b + 1 + 0 + (j - 0) = b + 1 + j by omega] at z
            omega
          have K := K3 hD c298
          refine zRs_t (fun c h1 h2 => (zC_n h1).trans (o1_269 c h1 h2)) (fun i hi => (congrFun zC_s i).trans ((zupd_o hi).trans (o2_269 i hi))) K.1 (by rw [zC_s, zupd_s, K.2]) ?_
          have w0 : (zC σ269 50 (upd (σ269 50) 12 (nI (b + 1 + 2 + 1)))) 60 0 = _ := (congrFun (zC_n (by omega)) 0).trans (v0_269.trans (congrArg nI znm_2))
          refine ⟨fun z => absurd (qc.symm.trans z) (by decide), fun z => absurd (qc.symm.trans z) (by decide), fun z => absurd (qc.symm.trans z) (by decide), fun z => absurd (qc.symm.trans z) (by decide), fun z => absurd (qc.symm.trans z) (by decide), fun z => absurd (qc.symm.trans z) (by decide), fun _ => w0⟩
        · refine zw_iconst (x := nI 0) hB dX6_readsStatement_301 (by decide) ?_
          refine zw_zret hB hR dX6_readsStatement_302 rfl (by decide) ?_
          obtain ⟨K1, K2, K3⟩ := zsx_D hc hb hs (m := 2) (by decide) (by decide) (by decide) (by decide)
          have hD : ∀ j, j < 2 → zdg l (b + 1 + j) := by
            intro j hj
            by_cases u269 : j < 2
            · have z := c289 (j - 0) (by omega)
              rwa [show b + 1 + 0 + (j - 0) = b + 1 + j by omega] at z
            omega
          exact zRs_f o1_269 o2_269 (K2 hD c298) p_269
    have hcc := (zlc_n hc hb).2
    have ez : zsx (zlc l) l.length b = some b := by
      unfold zsx
      rw [if_neg (show ¬ l.length ≤ b by omega), if_pos]
      unfold zsh
      rw [if_neg q102, if_neg q112, if_neg (fun z => z.elim q97 q121), if_neg (fun z => z.elim q111 q115), if_neg q104]
    refine zw_aload0 hB dX6_readsStatement_0 ?_
    refine zw_callV0P (M' := mX6_here) hB dX6_readsStatement_1 zl_X6_98 zg_X6_here (zRc.of rfl rfl rfl) (s_X6_here hL h96 hA hc (by omega) hp) ?_
    rw [show zhr l b = nI (zlc l b) from if_pos hb]
    refine zw_istore1 hB dX6_readsStatement_4 rfl ?_
    refine zw_aload0 hB dX6_readsStatement_5 ?_
    refine zw_dup hB dX6_readsStatement_6 rfl ?_
    refine zw_getfV (x := nI b) hB dX6_readsStatement_7 zf_X6_95 rfl rfl hp ?_
    refine zw_iconst (x := nI 1) hB dX6_readsStatement_10 (by decide) ?_
    refine zw_iaddN hB dX6_readsStatement_11 ?_
    refine zw_putfI hB dX6_readsStatement_12 zfw_X6_95 rfl rfl ?_
    refine zw_iload1 hB dX6_readsStatement_15 ?_
    refine zw_tabG (off := 260) (tgt := 276) hB dX6_readsStatement_16 hcc (zstd hcc q102 q112 q97 q111 q115 q104 q121) (by decide) ?_
    refine zw_aload0 hB dX6_readsStatement_276 ?_
    refine zw_dup hB dX6_readsStatement_277 rfl ?_
    refine zw_getfV (x := nI (b + 1)) hB dX6_readsStatement_278 zf_X6_95 rfl rfl (by rw [zC_s, zupd_s]) ?_
    refine zw_iconst (x := nI 1) hB dX6_readsStatement_281 (by decide) ?_
    refine zw_isub hB dX6_readsStatement_282 ?_
    rw [pk_sub (by omega), Nat.add_sub_cancel]
    refine zw_putfI hB dX6_readsStatement_283 zfw_X6_95 rfl rfl ?_
    refine zw_iconst (x := nI 0) hB dX6_readsStatement_286 (by decide) ?_
    refine zw_zret hB hR dX6_readsStatement_287 rfl (by decide) ?_
    exact zRs_f (fun c h1 h2 => by rw [zC_n h1, zC_n h1]) (fun i hi => by rw [zC_s, zupd_o hi, zC_s, zupd_o hi]) ez (by rw [zC_s, zupd_s])
  · have ez : zsx (zlc l) l.length b = some b := by
      unfold zsx
      rw [if_pos (show l.length ≤ b by omega)]
    refine zw_aload0 hB dX6_readsStatement_0 ?_
    refine zw_callV0P (M' := mX6_here) hB dX6_readsStatement_1 zl_X6_98 zg_X6_here (zRc.of rfl rfl rfl) (s_X6_here hL h96 hA hc (by omega) hp) ?_
    rw [show zhr l b = -1 from if_neg hb]
    refine zw_istore1 hB dX6_readsStatement_4 rfl ?_
    refine zw_aload0 hB dX6_readsStatement_5 ?_
    refine zw_dup hB dX6_readsStatement_6 rfl ?_
    refine zw_getfV (x := nI b) hB dX6_readsStatement_7 zf_X6_95 rfl rfl hp ?_
    refine zw_iconst (x := nI 1) hB dX6_readsStatement_10 (by decide) ?_
    refine zw_iaddN hB dX6_readsStatement_11 ?_
    refine zw_putfI hB dX6_readsStatement_12 zfw_X6_95 rfl rfl ?_
    refine zw_iload1 hB dX6_readsStatement_15 ?_
    refine zw_tabOut (tgt := 276) hB dX6_readsStatement_16 (by decide) (by decide) ?_
    refine zw_aload0 hB dX6_readsStatement_276 ?_
    refine zw_dup hB dX6_readsStatement_277 rfl ?_
    refine zw_getfV (x := nI (b + 1)) hB dX6_readsStatement_278 zf_X6_95 rfl rfl (by rw [zC_s, zupd_s]) ?_
    refine zw_iconst (x := nI 1) hB dX6_readsStatement_281 (by decide) ?_
    refine zw_isub hB dX6_readsStatement_282 ?_
    rw [pk_sub (by omega), Nat.add_sub_cancel]
    refine zw_putfI hB dX6_readsStatement_283 zfw_X6_95 rfl rfl ?_
    refine zw_iconst (x := nI 0) hB dX6_readsStatement_286 (by decide) ?_
    refine zw_zret hB hR dX6_readsStatement_287 rfl (by decide) ?_
    exact zRs_f (fun c h1 h2 => by rw [zC_n h1, zC_n h1]) (fun i hi => by rw [zC_s, zupd_o hi, zC_s, zupd_o hi]) ez (by rw [zC_s, zupd_s])
