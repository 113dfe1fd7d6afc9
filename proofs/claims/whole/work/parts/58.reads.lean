/-! LETTERS: the reference reads a statement -/
def zhr (l : List Int32) (q : Nat) : Int32 := if q < l.length then nI (zlc l q) else -1
abbrev zdg (l : List Int32) (i : Nat) : Prop := i < l.length ∧ 48 ≤ zlc l i ∧ zlc l i ≤ 57
abbrev zdn (l : List Int32) (q d : Nat) : Prop := ∀ i, i < d → zdg l (q + i)
def znm (l : List Int32) (q : Nat) : Nat → Nat
  | 0 => 0
  | i + 1 => 10 * znm l q i + (zlc l (q + i) - 48)
theorem znm_1 {l : List Int32} {q : Nat} : znm l q 1 = zlc l q - 48 := by
  show 10 * 0 + (zlc l (q + 0) - 48) = _
  rw [Nat.add_zero]; omega
theorem znm_2 {l : List Int32} {q : Nat} : znm l q 2 = zn2 (zlc l) q := by
  show 10 * (znm l q 1) + (zlc l (q + 1) - 48) = _
  rw [znm_1]; rfl
theorem zdg_in {l : List Int32} (hc : ∀ x ∈ l, ∃ c, c ≤ 255 ∧ x = nI c) {q : Nat} : (nI 48 ≤ zhr l q ∧ zhr l q ≤ nI 57) ↔ zdg l q := by
  unfold zhr
  by_cases h : q < l.length
  · have := (zlc_n hc h).2
    rw [if_pos h, nI_leI (by omega) (by omega), nI_leI (by omega) (by omega)]
    exact ⟨fun z => ⟨h, z⟩, fun z => z.2⟩
  · rw [if_neg h]
    exact ⟨fun z => absurd z.1 (by decide), fun z => absurd z.1 h⟩
theorem znm_b {l : List Int32} {q : Nat} : ∀ d, d ≤ 2 → zdn l q d → znm l q d ≤ 99 := by
  intro d hd h
  have h3 : d = 0 ∨ d = 1 ∨ d = 2 := by omega
  rcases h3 with rfl | rfl | rfl
  · exact Nat.zero_le _
  · have := (h 0 (by omega)).2
    rw [Nat.add_zero] at this
    rw [znm_1]; omega
  · have a := (h 0 (by omega)).2
    have b := (h 1 (by omega)).2
    rw [Nat.add_zero] at a
    rw [znm_2]; unfold zn2; omega
def zkb (c : Nat) : Int32 := if zkl c < 0 then -9 else zkl c
/-- what reading a number leaves -/
def zRn (l : List Int32) (q d k : Nat) (σ τ : zSt) : Prop := (∀ c, c ≠ 50 → c ≠ 60 → τ c = σ c) ∧ (∀ i, i ≠ 12 → τ 50 i = σ 50 i) ∧ (∀ i, i ≠ k → τ 60 i = σ 60 i) ∧ (zdn l q d → τ 50 12 = nI (q + d) ∧ τ 60 k = nI (znm l q d)) ∧ (¬ zdn l q d → ∃ i, i < d ∧ zdn l q i ∧ ¬ zdg l (q + i) ∧ τ 50 12 = nI (q + i))

theorem s_X6_here {n : Nat} {σ : zSt}  {l : List Int32} (hL : σ 50 10 = nI l.length) (h96 : l.length ≤ 96) (hA : zArr (σ 57) l) (hc : ∀ x ∈ l, ∃ c, c ≤ 255 ∧ x = nI c) {q : Nat} (hq : q < 1000) (hp : σ 50 12 = nI q) : zSem n mX6_here [.ref 50] σ (zP σ (.int (zhr l q))) := by
  refine zSem.of (by decide +kernel) (Nat.le_of_ble_eq_true rfl) (fun X hB hR => ?_)
  show zW X 0 [some (.ref 50)] [] σ
  refine zw_aload0 hB dX6_here_0 ?_
  refine zw_getfV (x := nI q) hB dX6_here_1 zf_X6_95 rfl rfl (hp) ?_
  refine zw_aload0 hB dX6_here_4 ?_
  refine zw_getfV (x := nI l.length) hB dX6_here_5 zf_X6_91 rfl rfl (hL) ?_
  refine zw_icmp_geN (tgt := 23) hB dX6_here_8 (by decide) (by omega) (by omega) (fun c8 => ?_) (fun c8 => ?_)
  · refine zw_iconst (x := -1) hB dX6_here_23 (by decide) ?_
    refine zw_iret hB hR dX6_here_24 rfl ?_
    exact ⟨by unfold zhr; rw [if_neg (by omega)], rfl⟩
  · refine zw_aload0 hB dX6_here_11 ?_
    refine zw_getfR hB dX6_here_12 zf_X6_28 rfl rfl ?_
    refine zw_aload0 hB dX6_here_15 ?_
    refine zw_getfV (x := nI q) hB dX6_here_16 zf_X6_95 rfl rfl (hp) ?_
    refine zw_ialdV (x := nI (zlc l q)) hB dX6_here_19 rfl (by omega) (by decide) ((hA q c8).trans (zlc_n hc c8).1) ?_
    refine zw_goto (tgt := 24) hB dX6_here_20 (by decide) ?_
    refine zw_iret hB hR dX6_here_24 rfl ?_
    exact ⟨by unfold zhr; rw [if_pos c8], rfl⟩
theorem s_X6_readsNumber {n : Nat} {σ : zSt}  {l : List Int32} (hL : σ 50 10 = nI l.length) (h96 : l.length ≤ 96) (hA : zArr (σ 57) l) (hc : ∀ x ∈ l, ∃ c, c ≤ 255 ∧ x = nI c) {q d k : Nat} (hq : q ≤ 200) (hd : d ≤ 2) (hk : k < 3) (hp : σ 50 12 = nI q) : zSem (n + 1) mX6_readsNumber [.ref 50, .int (nI k), .int (nI d)] σ (fun v τ => v = some (.int (zb (zdn l q d))) ∧ zRn l q d k σ τ) := by
  refine zSem.of (by decide +kernel) (Nat.le_of_ble_eq_true rfl) (fun X hB hR => ?_)
  show zW X 0 [some (.ref 50), some (.int (nI k)), some (.int (nI d)), none] [] σ
  have hl : ∀ i, i ≤ d → ∀ υ : zSt, zdn l q i → (∀ c, c ≠ 50 → c ≠ 60 → υ c = σ c) → (∀ j, j ≠ 12 → υ 50 j = σ 50 j) → (∀ j, j ≠ k → υ 60 j = σ 60 j) → υ 50 12 = nI (q + i) → υ 60 k = nI (znm l q i) → zW X 9 [some (.ref 50), some (.int (nI k)), some (.int (nI d)), some (.int (nI i))] [] υ := by
    refine zfor d (fun i hi ih => ?_)
    intro υ hh o1 o2 o3 hp hn
    have hnb := znm_b (l := l) (q := q) i (by omega) hh
    refine zw_iload3 hB dX6_readsNumber_9 ?_
    refine zw_iload2 hB dX6_readsNumber_10 ?_
    refine zw_icmp_geN (tgt := 69) hB dX6_readsNumber_11 (by decide) (by omega) (by omega) (fun c11 => ?_) (fun c11 => ?_)
    · refine zw_iconst (x := nI 1) hB dX6_readsNumber_69 (by decide) ?_
      refine zw_zret hB hR dX6_readsNumber_70 rfl (by decide) ?_
      obtain rfl : i = d := by omega
      exact ⟨by rw [zb_t hh]; rfl, o1, o2, o3, fun _ => ⟨hp, hn⟩, fun z => absurd hh z⟩
    · refine zw_aload0 hB dX6_readsNumber_14 ?_
      refine zw_callV0P (M' := mX6_here) hB dX6_readsNumber_15 zl_X6_98 zg_X6_here (zRc.of rfl rfl rfl) (s_X6_here (l := l) ((o2 10 (by omega)).trans hL) h96 (by rw [o1 57 (by omega) (by omega)]; exact hA) hc (by omega) hp) ?_
      refine zw_bipush (x := nI 48) hB dX6_readsNumber_18 (by decide) ?_
      refine zw_bipush (x := nI 57) hB dX6_readsNumber_20 (by decide) ?_
      refine zw_callS3P (M' := mX6_isIn) hB dX6_readsNumber_22 zl_X6_52 zg_X6_isIn (s_X6_isIn _ _ _) ?_
      refine zw_if_neB (tgt := 30) hB dX6_readsNumber_25 (by decide) (fun c25 => ?_) (fun c25 => ?_)
      · have hdg := (zdg_in hc).mp c25
        refine zw_aload0 hB dX6_readsNumber_30 ?_
        refine zw_getfR hB dX6_readsNumber_31 zf_X6_37 rfl rfl ?_
        refine zw_iload1 hB dX6_readsNumber_34 ?_
        refine zw_bipush (x := nI 10) hB dX6_readsNumber_35 (by decide) ?_
        refine zw_aload0 hB dX6_readsNumber_37 ?_
        refine zw_getfR hB dX6_readsNumber_38 zf_X6_37 rfl rfl ?_
        refine zw_iload1 hB dX6_readsNumber_41 ?_
        refine zw_ialdV (x := nI (znm l q i)) hB dX6_readsNumber_42 rfl (by omega) (by decide) (hn) ?_
        refine zw_imulN hB dX6_readsNumber_43 ?_
        refine zw_aload0 hB dX6_readsNumber_44 ?_
        refine zw_callV0P (M' := mX6_here) hB dX6_readsNumber_45 zl_X6_98 zg_X6_here (zRc.of rfl rfl rfl) (s_X6_here (l := l) ((o2 10 (by omega)).trans hL) h96 (by rw [o1 57 (by omega) (by omega)]; exact hA) hc (by omega) hp) ?_
        rw [show zhr l (q + i) = nI (zlc l (q + i)) from if_pos hdg.1]
        refine zw_iadd hB dX6_readsNumber_48 ?_
        rw [nI_add]
        refine zw_bipush (x := nI 48) hB dX6_readsNumber_49 (by decide) ?_
        refine zw_isubN hB dX6_readsNumber_51 (by omega) ?_
        refine zw_eqI (y := nI (znm l q (i + 1))) (congrArg nI (show 10 * znm l q i + zlc l (q + i) - 48 = 10 * znm l q i + (zlc l (q + i) - 48) by omega)) ?_
        refine zw_iastN hB dX6_readsNumber_52 rfl (by omega) (by decide) ?_
        refine zw_aload0 hB dX6_readsNumber_53 ?_
        refine zw_dup hB dX6_readsNumber_54 rfl ?_
        refine zw_getfV (x := nI (q + i)) hB dX6_readsNumber_55 zf_X6_95 rfl rfl (by rw [zC_n (by omega)]; exact hp) ?_
        refine zw_iconst (x := nI 1) hB dX6_readsNumber_58 (by decide) ?_
        refine zw_iaddN hB dX6_readsNumber_59 ?_
        refine zw_putfI hB dX6_readsNumber_60 zfw_X6_95 rfl rfl ?_
        refine zw_iinc3 hB dX6_readsNumber_63 (by first | exact zinc _ | rfl) (by first | rfl | assumption) ?_
        refine zw_goto (tgt := 9) hB dX6_readsNumber_66 (by decide) ?_
        refine ih c11 _ (fun j hj => ?_) (fun c h1 h2 => ?_) (fun j hj => ?_) (fun j hj => ?_) ?_ ?_
        · by_cases e : j = i
          · rw [e]; exact hdg
          · exact hh j (by omega)
        · rw [zC_n h1, zC_n h2]; exact o1 c h1 h2
        · rw [zC_s, zupd_o hj, zC_n (by omega)]; exact o2 j hj
        · rw [zC_n (by omega), zC_s, zupd_o hj]; exact o3 j hj
        · rw [zC_s, zupd_s]; rfl
        · rw [zC_n (by omega), zC_s, zupd_s]
      · refine zw_iconst (x := nI 0) hB dX6_readsNumber_28 (by decide) ?_
        refine zw_zret hB hR dX6_readsNumber_29 rfl (by decide) ?_
        have hn9 : ¬ zdn l q d := fun z => c25 ((zdg_in hc).mpr (z i (by omega)))
        exact ⟨by rw [zb_f hn9]; rfl, o1, o2, o3, fun z => absurd z hn9, fun _ => ⟨i, by omega, hh, fun z => c25 ((zdg_in hc).mpr z), hp⟩⟩
  refine zw_aload0 hB dX6_readsNumber_0 ?_
  refine zw_getfR hB dX6_readsNumber_1 zf_X6_37 rfl rfl ?_
  refine zw_iload1 hB dX6_readsNumber_4 ?_
  refine zw_iconst (x := nI 0) hB dX6_readsNumber_5 (by decide) ?_
  refine zw_iastN hB dX6_readsNumber_6 rfl (by omega) (by decide) ?_
  refine zw_iconst (x := nI 0) hB dX6_readsNumber_7 (by decide) ?_
  refine zw_istore3 hB dX6_readsNumber_8 (by first | rfl | assumption) ?_
  exact hl 0 (by omega) _ (fun j hj => absurd hj (by omega)) (fun c _ h2 => zC_n h2) (fun _ _ => rfl) (fun j hj => by rw [zC_s]; exact zupd_o hj) hp (by rw [zC_s, zupd_s]; rfl)
theorem zkbd0 : (List.range 256).all (fun c => (c == 119 || c == 116 || c == 114 || c == 99 || c == 102 || c == 109) || (Op.lookupswitch.offset (#[(99, 65), (102, 67), (109, 69), (114, 63), (116, 61), (119, 59)] : Array (Int × Int)).toList 71 (c : Int) == 71)) = true := by decide +kernel
theorem zkbd {c : Nat} (hc : c < 256) (q119 : ¬ c = 119) (q116 : ¬ c = 116) (q114 : ¬ c = 114) (q99 : ¬ c = 99) (q102 : ¬ c = 102) (q109 : ¬ c = 109) : Op.lookupswitch.offset (#[(99, 65), (102, 67), (109, 69), (114, 63), (116, 61), (119, 59)] : Array (Int × Int)).toList 71 (c : Int) = 71 := by
  have h := List.all_eq_true.mp zkbd0 c (List.mem_range.mpr hc)
  rcases Bool.or_eq_true_iff.mp h with h | h
  · simp only [Bool.or_eq_true, beq_iff_eq] at h
    omega
  · exact eq_of_beq h
theorem s_X6_kindBy {n : Nat} {σ : zSt}  {c : Nat} (hc : c < 256) : zSem n mX6_kindBy [.int (nI c)] σ (zP σ (.int (zkb c))) := by
  refine zSem.of (by decide +kernel) (Nat.le_of_ble_eq_true rfl) (fun X hB hR => ?_)
  show zW X 0 [some (.int (nI c))] [] σ
  by_cases q119 : c = 119
  · subst q119
    refine zw_iload0 hB dX6_kindBy_0 ?_
    refine zw_lookup (off := 59) (tgt := 60) hB dX6_kindBy_1 (by decide) (by decide) (by decide) ?_
    refine zw_iconst (x := nI 0) hB dX6_kindBy_60 (by decide) ?_
    refine zw_iret hB hR dX6_kindBy_61 rfl ?_
    exact ⟨by decide, rfl⟩
  by_cases q116 : c = 116
  · subst q116
    refine zw_iload0 hB dX6_kindBy_0 ?_
    refine zw_lookup (off := 61) (tgt := 62) hB dX6_kindBy_1 (by decide) (by decide) (by decide) ?_
    refine zw_iconst (x := nI 1) hB dX6_kindBy_62 (by decide) ?_
    refine zw_iret hB hR dX6_kindBy_63 rfl ?_
    exact ⟨by decide, rfl⟩
  by_cases q114 : c = 114
  · subst q114
    refine zw_iload0 hB dX6_kindBy_0 ?_
    refine zw_lookup (off := 63) (tgt := 64) hB dX6_kindBy_1 (by decide) (by decide) (by decide) ?_
    refine zw_iconst (x := nI 2) hB dX6_kindBy_64 (by decide) ?_
    refine zw_iret hB hR dX6_kindBy_65 rfl ?_
    exact ⟨by decide, rfl⟩
  by_cases q99 : c = 99
  · subst q99
    refine zw_iload0 hB dX6_kindBy_0 ?_
    refine zw_lookup (off := 65) (tgt := 66) hB dX6_kindBy_1 (by decide) (by decide) (by decide) ?_
    refine zw_iconst (x := nI 3) hB dX6_kindBy_66 (by decide) ?_
    refine zw_iret hB hR dX6_kindBy_67 rfl ?_
    exact ⟨by decide, rfl⟩
  by_cases q102 : c = 102
  · subst q102
    refine zw_iload0 hB dX6_kindBy_0 ?_
    refine zw_lookup (off := 67) (tgt := 68) hB dX6_kindBy_1 (by decide) (by decide) (by decide) ?_
    refine zw_iconst (x := nI 4) hB dX6_kindBy_68 (by decide) ?_
    refine zw_iret hB hR dX6_kindBy_69 rfl ?_
    exact ⟨by decide, rfl⟩
  by_cases q109 : c = 109
  · subst q109
    refine zw_iload0 hB dX6_kindBy_0 ?_
    refine zw_lookup (off := 69) (tgt := 70) hB dX6_kindBy_1 (by decide) (by decide) (by decide) ?_
    refine zw_iconst (x := nI 5) hB dX6_kindBy_70 (by decide) ?_
    refine zw_iret hB hR dX6_kindBy_71 rfl ?_
    exact ⟨by decide, rfl⟩
  refine zw_iload0 hB dX6_kindBy_0 ?_
  refine zw_lookup (off := 71) (tgt := 72) hB dX6_kindBy_1 (by decide) (by rw [nI_toInt (by omega)]; exact zkbd hc q119 q116 q114 q99 q102 q109) (by decide) ?_
  refine zw_bipush (x := -9) hB dX6_kindBy_72 (by decide) ?_
  refine zw_iret hB hR dX6_kindBy_74 rfl ?_
  refine ⟨?_, rfl⟩
  have e : zkl c = -1 := by unfold zkl; rw [if_neg q119, if_neg q116, if_neg q114, if_neg q99, if_neg q102, if_neg q109]
  rw [zkb, e]; rfl
theorem s_X6_kindBy1 {n : Nat} {σ : zSt}   : zSem n mX6_kindBy [.int (-1)] σ (zP σ (.int (-9))) := by
  refine zSem.of (by decide +kernel) (Nat.le_of_ble_eq_true rfl) (fun X hB hR => ?_)
  show zW X 0 [some (.int (-1))] [] σ
  refine zw_iload0 hB dX6_kindBy_0 ?_
  refine zw_lookup (off := 71) (tgt := 72) hB dX6_kindBy_1 (by decide) (by decide) (by decide) ?_
  refine zw_bipush (x := -9) hB dX6_kindBy_72 (by decide) ?_
  refine zw_iret hB hR dX6_kindBy_74 rfl ?_
  exact ⟨rfl, rfl⟩
abbrev zkd1 (l : List Int32) (q : Nat) : Prop := q < l.length ∧ ¬ zkl (zlc l q) < 0
def zkh (l : List Int32) (q : Nat) : Int32 := if q < l.length then zkb (zlc l q) else -9
theorem zkh_n {l : List Int32} {q : Nat} : (zkd1 l q ∧ zkh l q = zkl (zlc l q) ∧ ¬ zkh l q < 0) ∨ (¬ zkd1 l q ∧ zkh l q < 0) := by
  unfold zkh
  by_cases h : q < l.length
  · rw [if_pos h]
    unfold zkb
    by_cases g : zkl (zlc l q) < 0
    · rw [if_pos g]; exact Or.inr ⟨fun z => z.2 g, by decide⟩
    · rw [if_neg g]; exact Or.inl ⟨⟨h, g⟩, rfl, g⟩
  · rw [if_neg h]; exact Or.inr ⟨fun z => h z.1, by decide⟩
def zRk (l : List Int32) (q : Nat) (σ τ : zSt) : Prop := (∀ c, c ≠ 50 → c ≠ 60 → τ c = σ c) ∧ (∀ i, i ≠ 12 → τ 50 i = σ 50 i) ∧ (∀ i, i ≠ 0 → τ 60 i = σ 60 i) ∧ (zkd1 l q → τ 50 12 = nI (q + 1) ∧ τ 60 0 = zkl (zlc l q)) ∧ (¬ zkd1 l q → τ 50 12 = nI q)
theorem s_X6_readsKind {n : Nat} {σ : zSt}  {l : List Int32} (hL : σ 50 10 = nI l.length) (h96 : l.length ≤ 96) (hA : zArr (σ 57) l) (hc : ∀ x ∈ l, ∃ c, c ≤ 255 ∧ x = nI c) {q : Nat} (hq : q < 1000) (hp : σ 50 12 = nI q) : zSem (n + 1) mX6_readsKind [.ref 50] σ (fun v τ => v = some (.int (zb (zkd1 l q))) ∧ zRk l q σ τ) := by
  refine zSem.of (by decide +kernel) (Nat.le_of_ble_eq_true rfl) (fun X hB hR => ?_)
  show zW X 0 [some (.ref 50)] [] σ
  by_cases hin : q < l.length
  · refine zw_aload0 hB dX6_readsKind_0 ?_
    refine zw_getfR hB dX6_readsKind_1 zf_X6_37 rfl rfl ?_
    refine zw_iconst (x := nI 0) hB dX6_readsKind_4 (by decide) ?_
    refine zw_aload0 hB dX6_readsKind_5 ?_
    refine zw_callV0P (M' := mX6_here) hB dX6_readsKind_6 zl_X6_98 zg_X6_here (zRc.of rfl rfl rfl) (s_X6_here hL h96 hA hc hq hp) ?_
    rw [show zhr l q = nI (zlc l q) from if_pos hin]
    refine zw_callS1P (M' := mX6_kindBy) hB dX6_readsKind_9 zl_X6_102 zg_X6_kindBy (s_X6_kindBy (zlc_n hc hin).2) ?_
    refine zw_eqI (y := zkh l q) (by unfold zkh; rw [if_pos hin]) ?_
    refine zw_iastN hB dX6_readsKind_12 rfl (by omega) (by decide) ?_
    refine zw_aload0 hB dX6_readsKind_13 ?_
    refine zw_dup hB dX6_readsKind_14 rfl ?_
    refine zw_getfV (x := nI q) hB dX6_readsKind_15 zf_X6_95 rfl rfl (by rw [zC_n (by omega)]; exact hp) ?_
    refine zw_aload0 hB dX6_readsKind_18 ?_
    refine zw_getfR hB dX6_readsKind_19 zf_X6_37 rfl rfl ?_
    refine zw_iconst (x := nI 0) hB dX6_readsKind_22 (by decide) ?_
    refine zw_ialdV (x := zkh l q) hB dX6_readsKind_23 rfl (by omega) (by decide) (by rw [zC_s, zupd_s]) ?_
    refine zw_if_ge (tgt := 31) hB dX6_readsKind_24 (by decide) (fun c24 => ?_) (fun c24 => ?_)
    · refine zw_iconst (x := nI 1) hB dX6_readsKind_31 (by decide) ?_
      refine zw_iadd hB dX6_readsKind_32 ?_
      refine zw_putfI hB dX6_readsKind_33 zfw_X6_95 rfl rfl ?_
      refine zw_aload0 hB dX6_readsKind_36 ?_
      refine zw_getfR hB dX6_readsKind_37 zf_X6_37 rfl rfl ?_
      refine zw_iconst (x := nI 0) hB dX6_readsKind_40 (by decide) ?_
      refine zw_ialdV (x := zkh l q) hB dX6_readsKind_41 rfl (by omega) (by decide) (by rw [zC_n (by omega), zC_s, zupd_s]) ?_
      refine zw_if_lt (tgt := 49) hB dX6_readsKind_42 (by decide) (fun c42 => ?_) (fun c42 => ?_)
      · refine zw_iconst (x := nI 0) hB dX6_readsKind_49 (by decide) ?_
        refine zw_zret hB hR dX6_readsKind_50 rfl (by decide) ?_
        exfalso
        exact absurd c42 (by first | exact Int32.not_lt.mpr c24 | (rcases zkh_n (l := l) (q := q) with z | z; exact z.2.2; exact absurd z.2 (Int32.not_lt.mpr c24)))
      · refine zw_iconst (x := nI 1) hB dX6_readsKind_45 (by decide) ?_
        refine zw_goto (tgt := 50) hB dX6_readsKind_46 (by decide) ?_
        refine zw_zret hB hR dX6_readsKind_50 rfl (by decide) ?_
        have hk := (zkh_n (l := l) (q := q)).resolve_right (fun z => c42 z.2)
        exact ⟨by rw [zb_t hk.1]; rfl, fun c h1 h2 => by rw [zC_n h1, zC_n h2], fun i hi => by rw [zC_s, zupd_o hi, zC_n (by omega)], fun i hi => by rw [zC_n (by omega), zC_s, zupd_o hi], fun _ => ⟨by rw [zC_s, zupd_s, nI_add], by rw [zC_n (by omega), zC_s, zupd_s]; exact hk.2.1⟩, fun z => absurd hk.1 z⟩
    · refine zw_iconst (x := nI 0) hB dX6_readsKind_27 (by decide) ?_
      refine zw_goto (tgt := 32) hB dX6_readsKind_28 (by decide) ?_
      refine zw_iadd hB dX6_readsKind_32 ?_
      refine zw_putfI hB dX6_readsKind_33 zfw_X6_95 rfl rfl ?_
      refine zw_aload0 hB dX6_readsKind_36 ?_
      refine zw_getfR hB dX6_readsKind_37 zf_X6_37 rfl rfl ?_
      refine zw_iconst (x := nI 0) hB dX6_readsKind_40 (by decide) ?_
      refine zw_ialdV (x := zkh l q) hB dX6_readsKind_41 rfl (by omega) (by decide) (by rw [zC_n (by omega), zC_s, zupd_s]) ?_
      refine zw_if_lt (tgt := 49) hB dX6_readsKind_42 (by decide) (fun c42 => ?_) (fun c42 => ?_)
      · refine zw_iconst (x := nI 0) hB dX6_readsKind_49 (by decide) ?_
        refine zw_zret hB hR dX6_readsKind_50 rfl (by decide) ?_
        have hk := (zkh_n (l := l) (q := q)).resolve_left (fun z => z.2.2 c42)
        exact ⟨by rw [zb_f hk.1]; rfl, fun c h1 h2 => by rw [zC_n h1, zC_n h2], fun i hi => by rw [zC_s, zupd_o hi, zC_n (by omega)], fun i hi => by rw [zC_n (by omega), zC_s, zupd_o hi], fun z => absurd z hk.1, fun _ => by rw [zC_s, zupd_s, nI_add, Nat.add_zero]⟩
      · refine zw_iconst (x := nI 1) hB dX6_readsKind_45 (by decide) ?_
        refine zw_goto (tgt := 50) hB dX6_readsKind_46 (by decide) ?_
        refine zw_zret hB hR dX6_readsKind_50 rfl (by decide) ?_
        exfalso
        exact c42 (Int32.not_le.mp c24)
  · refine zw_aload0 hB dX6_readsKind_0 ?_
    refine zw_getfR hB dX6_readsKind_1 zf_X6_37 rfl rfl ?_
    refine zw_iconst (x := nI 0) hB dX6_readsKind_4 (by decide) ?_
    refine zw_aload0 hB dX6_readsKind_5 ?_
    refine zw_callV0P (M' := mX6_here) hB dX6_readsKind_6 zl_X6_98 zg_X6_here (zRc.of rfl rfl rfl) (s_X6_here hL h96 hA hc hq hp) ?_
    rw [show zhr l q = -1 from if_neg hin]
    refine zw_callS1P (M' := mX6_kindBy) hB dX6_readsKind_9 zl_X6_102 zg_X6_kindBy (s_X6_kindBy1) ?_
    refine zw_eqI (y := zkh l q) (by unfold zkh; rw [if_neg hin]) ?_
    refine zw_iastN hB dX6_readsKind_12 rfl (by omega) (by decide) ?_
    refine zw_aload0 hB dX6_readsKind_13 ?_
    refine zw_dup hB dX6_readsKind_14 rfl ?_
    refine zw_getfV (x := nI q) hB dX6_readsKind_15 zf_X6_95 rfl rfl (by rw [zC_n (by omega)]; exact hp) ?_
    refine zw_aload0 hB dX6_readsKind_18 ?_
    refine zw_getfR hB dX6_readsKind_19 zf_X6_37 rfl rfl ?_
    refine zw_iconst (x := nI 0) hB dX6_readsKind_22 (by decide) ?_
    refine zw_ialdV (x := zkh l q) hB dX6_readsKind_23 rfl (by omega) (by decide) (by rw [zC_s, zupd_s]) ?_
    refine zw_if_ge (tgt := 31) hB dX6_readsKind_24 (by decide) (fun c24 => ?_) (fun c24 => ?_)
    · refine zw_iconst (x := nI 1) hB dX6_readsKind_31 (by decide) ?_
      refine zw_iadd hB dX6_readsKind_32 ?_
      refine zw_putfI hB dX6_readsKind_33 zfw_X6_95 rfl rfl ?_
      refine zw_aload0 hB dX6_readsKind_36 ?_
      refine zw_getfR hB dX6_readsKind_37 zf_X6_37 rfl rfl ?_
      refine zw_iconst (x := nI 0) hB dX6_readsKind_40 (by decide) ?_
      refine zw_ialdV (x := zkh l q) hB dX6_readsKind_41 rfl (by omega) (by decide) (by rw [zC_n (by omega), zC_s, zupd_s]) ?_
      refine zw_if_lt (tgt := 49) hB dX6_readsKind_42 (by decide) (fun c42 => ?_) (fun c42 => ?_)
      · refine zw_iconst (x := nI 0) hB dX6_readsKind_49 (by decide) ?_
        refine zw_zret hB hR dX6_readsKind_50 rfl (by decide) ?_
        exfalso
        exact absurd c42 (by first | exact Int32.not_lt.mpr c24 | (rcases zkh_n (l := l) (q := q) with z | z; exact z.2.2; exact absurd z.2 (Int32.not_lt.mpr c24)))
      · refine zw_iconst (x := nI 1) hB dX6_readsKind_45 (by decide) ?_
        refine zw_goto (tgt := 50) hB dX6_readsKind_46 (by decide) ?_
        refine zw_zret hB hR dX6_readsKind_50 rfl (by decide) ?_
        have hk := (zkh_n (l := l) (q := q)).resolve_right (fun z => c42 z.2)
        exact ⟨by rw [zb_t hk.1]; rfl, fun c h1 h2 => by rw [zC_n h1, zC_n h2], fun i hi => by rw [zC_s, zupd_o hi, zC_n (by omega)], fun i hi => by rw [zC_n (by omega), zC_s, zupd_o hi], fun _ => ⟨by rw [zC_s, zupd_s, nI_add], by rw [zC_n (by omega), zC_s, zupd_s]; exact hk.2.1⟩, fun z => absurd hk.1 z⟩
    · refine zw_iconst (x := nI 0) hB dX6_readsKind_27 (by decide) ?_
      refine zw_goto (tgt := 32) hB dX6_readsKind_28 (by decide) ?_
      refine zw_iadd hB dX6_readsKind_32 ?_
      refine zw_putfI hB dX6_readsKind_33 zfw_X6_95 rfl rfl ?_
      refine zw_aload0 hB dX6_readsKind_36 ?_
      refine zw_getfR hB dX6_readsKind_37 zf_X6_37 rfl rfl ?_
      refine zw_iconst (x := nI 0) hB dX6_readsKind_40 (by decide) ?_
      refine zw_ialdV (x := zkh l q) hB dX6_readsKind_41 rfl (by omega) (by decide) (by rw [zC_n (by omega), zC_s, zupd_s]) ?_
      refine zw_if_lt (tgt := 49) hB dX6_readsKind_42 (by decide) (fun c42 => ?_) (fun c42 => ?_)
      · refine zw_iconst (x := nI 0) hB dX6_readsKind_49 (by decide) ?_
        refine zw_zret hB hR dX6_readsKind_50 rfl (by decide) ?_
        have hk := (zkh_n (l := l) (q := q)).resolve_left (fun z => z.2.2 c42)
        exact ⟨by rw [zb_f hk.1]; rfl, fun c h1 h2 => by rw [zC_n h1, zC_n h2], fun i hi => by rw [zC_s, zupd_o hi, zC_n (by omega)], fun i hi => by rw [zC_n (by omega), zC_s, zupd_o hi], fun z => absurd z hk.1, fun _ => by rw [zC_s, zupd_s, nI_add, Nat.add_zero]⟩
      · refine zw_iconst (x := nI 1) hB dX6_readsKind_45 (by decide) ?_
        refine zw_goto (tgt := 50) hB dX6_readsKind_46 (by decide) ?_
        refine zw_zret hB hR dX6_readsKind_50 rfl (by decide) ?_
        exfalso
        exact c42 (Int32.not_le.mp c24)
