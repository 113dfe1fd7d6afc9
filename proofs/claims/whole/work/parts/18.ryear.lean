/-! REFERENCE: what a kind changes; a year -/
theorem zupd_t {σ : Nat → Int32} : σ = σ := rfl
theorem s_X6_changes {n : Nat} {σ : zSt}  {c k g f : Nat} (hc : zLY[c]? = some (.inl 47)) (hk : k < 6) (hg : g < 10) (hf : f < 6) (hh : ∀ j, j < 18 → ∃ t, t ≤ 30 ∧ σ c (5 + j) = nI t) : zSem (n + 2) mX6_changes [.ref c, .int (nI k), .int (nI g), .int (nI f)] σ (fun v τ => v = none ∧ zro τ c = zTl (zro σ c) k g f ∧ ∀ a, a ≠ c → τ a = σ a) := by
  refine zSem.of (by decide +kernel) (Nat.le_of_ble_eq_true rfl) (fun X hB hR => ?_)
  show zW X 0 [some (.ref c), some (.int (nI k)), some (.int (nI g)), some (.int (nI f)), none, none] [] σ
  refine zw_iload2 hB dX6_changes_0 ?_
  refine zw_iconst (x := nI 3) hB dX6_changes_1 (by decide) ?_
  refine zw_idivN hB dX6_changes_2 (by omega) (by omega) (by omega) ?_
  refine zw_iconst (x := nI 1) hB dX6_changes_3 (by decide) ?_
  refine zw_iaddN hB dX6_changes_4 ?_
  refine zw_istore4 hB dX6_changes_5 rfl ?_
  refine zw_iload1 hB dX6_changes_7 ?_
  have hk6 : k = 0 ∨ k = 1 ∨ k = 2 ∨ k = 3 ∨ k = 4 ∨ k = 5 := by omega
  rcases hk6 with rfl | rfl | rfl | rfl | rfl | rfl
  · refine zw_tabOut (tgt := 140) hB dX6_changes_8 (by decide) (by decide) ?_
    refine zw_aload0 hB dX6_changes_140 ?_
    refine zw_iload3 hB dX6_changes_141 ?_
    refine zw_iconst (x := nI 0) hB dX6_changes_142 (by decide) ?_
    refine zw_bipush (x := -3) hB dX6_changes_143 (by decide) ?_
    refine zw_callS4U (M' := mX6_more) hB dX6_changes_145 zl_X6_66 zg_X6_more (s_X6_more hc hf (by omega) _) ?_
    refine zw_aload0 hB dX6_changes_148 ?_
    refine zw_iload3 hB dX6_changes_149 ?_
    refine zw_iconst (x := nI 1) hB dX6_changes_150 (by decide) ?_
    refine zw_iconst (x := nI 1) hB dX6_changes_151 (by decide) ?_
    refine zw_callS4U (M' := mX6_more) hB dX6_changes_152 zl_X6_66 zg_X6_more (s_X6_more hc hf (by omega) _) ?_
    refine zw_vret hB hR dX6_changes_155 rfl ?_
    refine ⟨rfl, ?_, fun a ha => by simp only [zC_n ha]⟩
    simp only [zC_C, zC_s]
    refine zTl_of hf (fun s hs => ?_) (fun j hj => ?_)
    · have h3 : s = 0 ∨ s = 1 ∨ s = 2 := by omega
      obtain ⟨t, ht, et⟩ := hh (3 * f + s) (by omega)
      rw [← Nat.add_assoc] at et
      rcases h3 with rfl | rfl | rfl
      · rw [zupd_o (by omega), zupd_s]; rfl
      · rw [zupd_s, zupd_o (by omega)]; rfl
      · rw [zupd_o (by omega), zupd_o (by omega)]; exact et.trans (by rw [et]; exact (zhd_id ht).symm)
    · simp only [zupd_o (show j ≠ 5 + 3 * f + 0 by omega), zupd_o (show j ≠ 5 + 3 * f + 1 by omega), zupd_o (show j ≠ 5 + 3 * f + 2 by omega)]
  · refine zw_tabIn (off := 36) (tgt := 44) hB dX6_changes_8 (by decide) (by decide) (by decide) (by decide) ?_
    refine zw_aload0 hB dX6_changes_44 ?_
    refine zw_iload3 hB dX6_changes_45 ?_
    refine zw_iconst (x := nI 1) hB dX6_changes_46 (by decide) ?_
    refine zw_bipush (x := -3) hB dX6_changes_47 (by decide) ?_
    refine zw_callS4U (M' := mX6_more) hB dX6_changes_49 zl_X6_66 zg_X6_more (s_X6_more hc hf (by omega) _) ?_
    refine zw_aload0 hB dX6_changes_52 ?_
    refine zw_iload3 hB dX6_changes_53 ?_
    refine zw_iconst (x := nI 2) hB dX6_changes_54 (by decide) ?_
    refine zw_iconst (x := nI 1) hB dX6_changes_55 (by decide) ?_
    refine zw_callS4U (M' := mX6_more) hB dX6_changes_56 zl_X6_66 zg_X6_more (s_X6_more hc hf (by omega) _) ?_
    refine zw_goto (tgt := 155) hB dX6_changes_59 (by decide) ?_
    refine zw_vret hB hR dX6_changes_155 rfl ?_
    refine ⟨rfl, ?_, fun a ha => by simp only [zC_n ha]⟩
    simp only [zC_C, zC_s]
    refine zTl_of hf (fun s hs => ?_) (fun j hj => ?_)
    · have h3 : s = 0 ∨ s = 1 ∨ s = 2 := by omega
      obtain ⟨t, ht, et⟩ := hh (3 * f + s) (by omega)
      rw [← Nat.add_assoc] at et
      rcases h3 with rfl | rfl | rfl
      · rw [zupd_o (by omega), zupd_o (by omega)]; exact et.trans (by rw [et]; exact (zhd_id ht).symm)
      · rw [zupd_o (by omega), zupd_s]; rfl
      · rw [zupd_s, zupd_o (by omega)]; rfl
    · simp only [zupd_o (show j ≠ 5 + 3 * f + 0 by omega), zupd_o (show j ≠ 5 + 3 * f + 1 by omega), zupd_o (show j ≠ 5 + 3 * f + 2 by omega)]
  · refine zw_tabIn (off := 54) (tgt := 62) hB dX6_changes_8 (by decide) (by decide) (by decide) (by decide) ?_
    refine zw_aload0 hB dX6_changes_62 ?_
    refine zw_iload3 hB dX6_changes_63 ?_
    refine zw_iconst (x := nI 2) hB dX6_changes_64 (by decide) ?_
    refine zw_bipush (x := -4) hB dX6_changes_65 (by decide) ?_
    refine zw_callS4U (M' := mX6_more) hB dX6_changes_67 zl_X6_66 zg_X6_more (s_X6_more hc hf (by omega) _) ?_
    refine zw_aload0 hB dX6_changes_70 ?_
    refine zw_iload3 hB dX6_changes_71 ?_
    refine zw_iconst (x := nI 0) hB dX6_changes_72 (by decide) ?_
    refine zw_iconst (x := nI 1) hB dX6_changes_73 (by decide) ?_
    refine zw_callS4U (M' := mX6_more) hB dX6_changes_74 zl_X6_66 zg_X6_more (s_X6_more hc hf (by omega) _) ?_
    refine zw_goto (tgt := 155) hB dX6_changes_77 (by decide) ?_
    refine zw_vret hB hR dX6_changes_155 rfl ?_
    refine ⟨rfl, ?_, fun a ha => by simp only [zC_n ha]⟩
    simp only [zC_C, zC_s]
    refine zTl_of hf (fun s hs => ?_) (fun j hj => ?_)
    · have h3 : s = 0 ∨ s = 1 ∨ s = 2 := by omega
      obtain ⟨t, ht, et⟩ := hh (3 * f + s) (by omega)
      rw [← Nat.add_assoc] at et
      rcases h3 with rfl | rfl | rfl
      · rw [zupd_s, zupd_o (by omega)]; rfl
      · rw [zupd_o (by omega), zupd_o (by omega)]; exact et.trans (by rw [et]; exact (zhd_id ht).symm)
      · rw [zupd_o (by omega), zupd_s]; rfl
    · simp only [zupd_o (show j ≠ 5 + 3 * f + 0 by omega), zupd_o (show j ≠ 5 + 3 * f + 1 by omega), zupd_o (show j ≠ 5 + 3 * f + 2 by omega)]
  · refine zw_tabIn (off := 72) (tgt := 80) hB dX6_changes_8 (by decide) (by decide) (by decide) (by decide) ?_
    refine zw_aload0 hB dX6_changes_80 ?_
    refine zw_iload3 hB dX6_changes_81 ?_
    refine zw_iconst (x := nI 0) hB dX6_changes_82 (by decide) ?_
    refine zw_iconst (x := nI 3) hB dX6_changes_83 (by decide) ?_
    refine zw_callS4U (M' := mX6_more) hB dX6_changes_84 zl_X6_66 zg_X6_more (s_X6_more hc hf (by omega) _) ?_
    refine zw_aload0 hB dX6_changes_87 ?_
    refine zw_iload3 hB dX6_changes_88 ?_
    refine zw_iconst (x := nI 1) hB dX6_changes_89 (by decide) ?_
    refine zw_iconst (x := -1) hB dX6_changes_90 (by decide) ?_
    refine zw_callS4U (M' := mX6_more) hB dX6_changes_91 zl_X6_66 zg_X6_more (s_X6_more hc hf (by omega) _) ?_
    refine zw_goto (tgt := 155) hB dX6_changes_94 (by decide) ?_
    refine zw_vret hB hR dX6_changes_155 rfl ?_
    refine ⟨rfl, ?_, fun a ha => by simp only [zC_n ha]⟩
    simp only [zC_C, zC_s]
    refine zTl_of hf (fun s hs => ?_) (fun j hj => ?_)
    · have h3 : s = 0 ∨ s = 1 ∨ s = 2 := by omega
      obtain ⟨t, ht, et⟩ := hh (3 * f + s) (by omega)
      rw [← Nat.add_assoc] at et
      rcases h3 with rfl | rfl | rfl
      · rw [zupd_o (by omega), zupd_s]; rfl
      · rw [zupd_s, zupd_o (by omega)]; rfl
      · rw [zupd_o (by omega), zupd_o (by omega)]; exact et.trans (by rw [et]; exact (zhd_id ht).symm)
    · simp only [zupd_o (show j ≠ 5 + 3 * f + 0 by omega), zupd_o (show j ≠ 5 + 3 * f + 1 by omega), zupd_o (show j ≠ 5 + 3 * f + 2 by omega)]
  · refine zw_tabIn (off := 89) (tgt := 97) hB dX6_changes_8 (by decide) (by decide) (by decide) (by decide) ?_
    refine zw_iconst (x := nI 0) hB dX6_changes_97 (by decide) ?_
    refine zw_istore5 hB dX6_changes_98 rfl ?_
    refine zw_iload5 hB dX6_changes_100 ?_
    refine zw_iconst (x := nI 3) hB dX6_changes_102 (by decide) ?_
    refine zw_icmp_geN (tgt := 137) hB dX6_changes_103 (by decide) (by omega) (by omega) (fun c103 => by first | exact absurd c103 (by omega) | exact absurd (by omega) c103 | omega) (fun c103 => ?_)
    refine zw_aload0 hB dX6_changes_106 ?_
    refine zw_iload3 hB dX6_changes_107 ?_
    refine zw_iload5 hB dX6_changes_108 ?_
    refine zw_iload4 hB dX6_changes_110 ?_
    refine zw_iload1 hB dX6_changes_112 ?_
    refine zw_iconst (x := nI 5) hB dX6_changes_113 (by decide) ?_
    refine zw_icmp_neN (tgt := 126) hB dX6_changes_114 (by decide) (by omega) (by omega) (fun c114 => ?_) (fun c114 => by first | exact absurd (by omega) c114 | exact absurd c114 (by omega) | omega)
    refine zw_iconst (x := nI 0) hB dX6_changes_126 (by decide) ?_
    refine zw_iaddN hB dX6_changes_127 ?_
    refine zw_callS4U (M' := mX6_more) hB dX6_changes_128 zl_X6_66 zg_X6_more (s_X6_more hc hf (by omega) _) ?_
    refine zw_iinc5 hB dX6_changes_131 (by first | exact zinc _ | rfl) rfl ?_
    refine zw_goto (tgt := 100) hB dX6_changes_134 (by decide) ?_
    refine zw_iload5 hB dX6_changes_100 ?_
    refine zw_iconst (x := nI 3) hB dX6_changes_102 (by decide) ?_
    refine zw_icmp_geN (tgt := 137) hB dX6_changes_103 (by decide) (by omega) (by omega) (fun c103 => by first | exact absurd c103 (by omega) | exact absurd (by omega) c103 | omega) (fun c103 => ?_)
    refine zw_aload0 hB dX6_changes_106 ?_
    refine zw_iload3 hB dX6_changes_107 ?_
    refine zw_iload5 hB dX6_changes_108 ?_
    refine zw_iload4 hB dX6_changes_110 ?_
    refine zw_iload1 hB dX6_changes_112 ?_
    refine zw_iconst (x := nI 5) hB dX6_changes_113 (by decide) ?_
    refine zw_icmp_neN (tgt := 126) hB dX6_changes_114 (by decide) (by omega) (by omega) (fun c114 => ?_) (fun c114 => by first | exact absurd (by omega) c114 | exact absurd c114 (by omega) | omega)
    refine zw_iconst (x := nI 0) hB dX6_changes_126 (by decide) ?_
    refine zw_iaddN hB dX6_changes_127 ?_
    refine zw_callS4U (M' := mX6_more) hB dX6_changes_128 zl_X6_66 zg_X6_more (s_X6_more hc hf (by omega) _) ?_
    refine zw_iinc5 hB dX6_changes_131 (by first | exact zinc _ | rfl) rfl ?_
    refine zw_goto (tgt := 100) hB dX6_changes_134 (by decide) ?_
    refine zw_iload5 hB dX6_changes_100 ?_
    refine zw_iconst (x := nI 3) hB dX6_changes_102 (by decide) ?_
    refine zw_icmp_geN (tgt := 137) hB dX6_changes_103 (by decide) (by omega) (by omega) (fun c103 => by first | exact absurd c103 (by omega) | exact absurd (by omega) c103 | omega) (fun c103 => ?_)
    refine zw_aload0 hB dX6_changes_106 ?_
    refine zw_iload3 hB dX6_changes_107 ?_
    refine zw_iload5 hB dX6_changes_108 ?_
    refine zw_iload4 hB dX6_changes_110 ?_
    refine zw_iload1 hB dX6_changes_112 ?_
    refine zw_iconst (x := nI 5) hB dX6_changes_113 (by decide) ?_
    refine zw_icmp_neN (tgt := 126) hB dX6_changes_114 (by decide) (by omega) (by omega) (fun c114 => ?_) (fun c114 => by first | exact absurd (by omega) c114 | exact absurd c114 (by omega) | omega)
    refine zw_iconst (x := nI 0) hB dX6_changes_126 (by decide) ?_
    refine zw_iaddN hB dX6_changes_127 ?_
    refine zw_callS4U (M' := mX6_more) hB dX6_changes_128 zl_X6_66 zg_X6_more (s_X6_more hc hf (by omega) _) ?_
    refine zw_iinc5 hB dX6_changes_131 (by first | exact zinc _ | rfl) rfl ?_
    refine zw_goto (tgt := 100) hB dX6_changes_134 (by decide) ?_
    refine zw_iload5 hB dX6_changes_100 ?_
    refine zw_iconst (x := nI 3) hB dX6_changes_102 (by decide) ?_
    refine zw_icmp_geN (tgt := 137) hB dX6_changes_103 (by decide) (by omega) (by omega) (fun c103 => ?_) (fun c103 => by first | exact absurd (by omega) c103 | exact absurd c103 (by omega) | omega)
    refine zw_goto (tgt := 155) hB dX6_changes_137 (by decide) ?_
    refine zw_vret hB hR dX6_changes_155 rfl ?_
    refine ⟨rfl, ?_, fun a ha => by simp only [zC_n ha]⟩
    simp only [zC_C, zC_s]
    refine zTl_of hf (fun s hs => ?_) (fun j hj => ?_)
    · have h3 : s = 0 ∨ s = 1 ∨ s = 2 := by omega
      obtain ⟨t, ht, et⟩ := hh (3 * f + s) (by omega)
      rw [← Nat.add_assoc] at et
      rcases h3 with rfl | rfl | rfl
      · rw [zupd_o (by omega), zupd_o (by omega), zupd_s]; rw [zgv4 g hg 0 (by omega)]
      · rw [zupd_o (by omega), zupd_s, zupd_o (by omega)]; rw [zgv4 g hg 1 (by omega)]
      · rw [zupd_s, zupd_o (by omega), zupd_o (by omega)]; rw [zgv4 g hg 2 (by omega)]
    · simp only [zupd_o (show j ≠ 5 + 3 * f + 0 by omega), zupd_o (show j ≠ 5 + 3 * f + 1 by omega), zupd_o (show j ≠ 5 + 3 * f + 2 by omega)]
  · refine zw_tabIn (off := 89) (tgt := 97) hB dX6_changes_8 (by decide) (by decide) (by decide) (by decide) ?_
    refine zw_iconst (x := nI 0) hB dX6_changes_97 (by decide) ?_
    refine zw_istore5 hB dX6_changes_98 rfl ?_
    refine zw_iload5 hB dX6_changes_100 ?_
    refine zw_iconst (x := nI 3) hB dX6_changes_102 (by decide) ?_
    refine zw_icmp_geN (tgt := 137) hB dX6_changes_103 (by decide) (by omega) (by omega) (fun c103 => by first | exact absurd c103 (by omega) | exact absurd (by omega) c103 | omega) (fun c103 => ?_)
    refine zw_aload0 hB dX6_changes_106 ?_
    refine zw_iload3 hB dX6_changes_107 ?_
    refine zw_iload5 hB dX6_changes_108 ?_
    refine zw_iload4 hB dX6_changes_110 ?_
    refine zw_iload1 hB dX6_changes_112 ?_
    refine zw_iconst (x := nI 5) hB dX6_changes_113 (by decide) ?_
    refine zw_icmp_neN (tgt := 126) hB dX6_changes_114 (by decide) (by omega) (by omega) (fun c114 => by first | exact absurd c114 (by omega) | exact absurd (by omega) c114 | omega) (fun c114 => ?_)
    refine zw_iload5 hB dX6_changes_117 ?_
    refine zw_if_ne (tgt := 126) hB dX6_changes_119 (by decide) (fun c119 => by first | exact absurd c119 (show nI 0 = 0 from rfl) | exact absurd (show nI 0 = 0 from rfl) c119 | omega) (fun c119 => ?_)
    refine zw_iconst (x := nI 2) hB dX6_changes_122 (by decide) ?_
    refine zw_goto (tgt := 127) hB dX6_changes_123 (by decide) ?_
    refine zw_iaddN hB dX6_changes_127 ?_
    refine zw_callS4U (M' := mX6_more) hB dX6_changes_128 zl_X6_66 zg_X6_more (s_X6_more hc hf (by omega) _) ?_
    refine zw_iinc5 hB dX6_changes_131 (by first | exact zinc _ | rfl) rfl ?_
    refine zw_goto (tgt := 100) hB dX6_changes_134 (by decide) ?_
    refine zw_iload5 hB dX6_changes_100 ?_
    refine zw_iconst (x := nI 3) hB dX6_changes_102 (by decide) ?_
    refine zw_icmp_geN (tgt := 137) hB dX6_changes_103 (by decide) (by omega) (by omega) (fun c103 => by first | exact absurd c103 (by omega) | exact absurd (by omega) c103 | omega) (fun c103 => ?_)
    refine zw_aload0 hB dX6_changes_106 ?_
    refine zw_iload3 hB dX6_changes_107 ?_
    refine zw_iload5 hB dX6_changes_108 ?_
    refine zw_iload4 hB dX6_changes_110 ?_
    refine zw_iload1 hB dX6_changes_112 ?_
    refine zw_iconst (x := nI 5) hB dX6_changes_113 (by decide) ?_
    refine zw_icmp_neN (tgt := 126) hB dX6_changes_114 (by decide) (by omega) (by omega) (fun c114 => by first | exact absurd c114 (by omega) | exact absurd (by omega) c114 | omega) (fun c114 => ?_)
    refine zw_iload5 hB dX6_changes_117 ?_
    refine zw_if_ne (tgt := 126) hB dX6_changes_119 (by decide) (fun c119 => ?_) (fun c119 => by first | exact absurd (by decide) c119 | exact absurd c119 (by decide) | omega)
    refine zw_iconst (x := nI 0) hB dX6_changes_126 (by decide) ?_
    refine zw_iaddN hB dX6_changes_127 ?_
    refine zw_callS4U (M' := mX6_more) hB dX6_changes_128 zl_X6_66 zg_X6_more (s_X6_more hc hf (by omega) _) ?_
    refine zw_iinc5 hB dX6_changes_131 (by first | exact zinc _ | rfl) rfl ?_
    refine zw_goto (tgt := 100) hB dX6_changes_134 (by decide) ?_
    refine zw_iload5 hB dX6_changes_100 ?_
    refine zw_iconst (x := nI 3) hB dX6_changes_102 (by decide) ?_
    refine zw_icmp_geN (tgt := 137) hB dX6_changes_103 (by decide) (by omega) (by omega) (fun c103 => by first | exact absurd c103 (by omega) | exact absurd (by omega) c103 | omega) (fun c103 => ?_)
    refine zw_aload0 hB dX6_changes_106 ?_
    refine zw_iload3 hB dX6_changes_107 ?_
    refine zw_iload5 hB dX6_changes_108 ?_
    refine zw_iload4 hB dX6_changes_110 ?_
    refine zw_iload1 hB dX6_changes_112 ?_
    refine zw_iconst (x := nI 5) hB dX6_changes_113 (by decide) ?_
    refine zw_icmp_neN (tgt := 126) hB dX6_changes_114 (by decide) (by omega) (by omega) (fun c114 => by first | exact absurd c114 (by omega) | exact absurd (by omega) c114 | omega) (fun c114 => ?_)
    refine zw_iload5 hB dX6_changes_117 ?_
    refine zw_if_ne (tgt := 126) hB dX6_changes_119 (by decide) (fun c119 => ?_) (fun c119 => by first | exact absurd (by decide) c119 | exact absurd c119 (by decide) | omega)
    refine zw_iconst (x := nI 0) hB dX6_changes_126 (by decide) ?_
    refine zw_iaddN hB dX6_changes_127 ?_
    refine zw_callS4U (M' := mX6_more) hB dX6_changes_128 zl_X6_66 zg_X6_more (s_X6_more hc hf (by omega) _) ?_
    refine zw_iinc5 hB dX6_changes_131 (by first | exact zinc _ | rfl) rfl ?_
    refine zw_goto (tgt := 100) hB dX6_changes_134 (by decide) ?_
    refine zw_iload5 hB dX6_changes_100 ?_
    refine zw_iconst (x := nI 3) hB dX6_changes_102 (by decide) ?_
    refine zw_icmp_geN (tgt := 137) hB dX6_changes_103 (by decide) (by omega) (by omega) (fun c103 => ?_) (fun c103 => by first | exact absurd (by omega) c103 | exact absurd c103 (by omega) | omega)
    refine zw_goto (tgt := 155) hB dX6_changes_137 (by decide) ?_
    refine zw_vret hB hR dX6_changes_155 rfl ?_
    refine ⟨rfl, ?_, fun a ha => by simp only [zC_n ha]⟩
    simp only [zC_C, zC_s]
    refine zTl_of hf (fun s hs => ?_) (fun j hj => ?_)
    · have h3 : s = 0 ∨ s = 1 ∨ s = 2 := by omega
      obtain ⟨t, ht, et⟩ := hh (3 * f + s) (by omega)
      rw [← Nat.add_assoc] at et
      rcases h3 with rfl | rfl | rfl
      · rw [zupd_o (by omega), zupd_o (by omega), zupd_s]; rw [zgv5a g hg]
      · rw [zupd_o (by omega), zupd_s, zupd_o (by omega)]; rw [zgv5 g hg 1 (by omega) (by omega)]
      · rw [zupd_s, zupd_o (by omega), zupd_o (by omega)]; rw [zgv5 g hg 2 (by omega) (by omega)]
    · simp only [zupd_o (show j ≠ 5 + 3 * f + 0 by omega), zupd_o (show j ≠ 5 + 3 * f + 1 by omega), zupd_o (show j ≠ 5 + 3 * f + 2 by omega)]
