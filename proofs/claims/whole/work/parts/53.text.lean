/-! TEXTS: the constants' characters -/
def zln (i : Nat) : Nat := zlen.getD i 0
def zsg (i j : Nat) : Nat := ((zbyt.getD i []).getD j 0).toNatClampNeg
theorem zln_lt : ∀ i, i < 7 → zln i < 8 := by decide +kernel
theorem zshr0 : ∀ i, i < 7 → nI (zlen.getD i 0) >>> ((0 : Int32) &&& 31) = nI (zln i) := by decide +kernel
theorem zsg_e : ∀ i, i < 7 → ∀ j, j < zln i → (zbyt.getD i []).getD j 0 = nI (zsg i j) := by decide +kernel
theorem zsg_lt : ∀ i, i < 7 → ∀ j, j < zln i → zsg i j < 128 := by decide +kernel
theorem zsg_c : ∀ c, c < 128 → ((nI c &&& nI 255).toUInt32 % 65536).toInt32 = nI c := by decide +kernel
theorem znar_c : ∀ c, c < 128 → narrow .char (.int (nI c)) = .int (nI c) := by decide +kernel
theorem zi2c : ∀ c, c < 256 → ((nI c).toUInt32 % 65536).toInt32 = nI c := by decide +kernel
theorem zi2b : ∀ c, c < 256 → ∀ b, b < 128 → ((nI c).toInt8.toInt32 = nI b ↔ c = b) := by decide +kernel
/-- the number of a kind's letter -/
def zkl (c : Nat) : Int32 := if c = 119 then nI 0 else if c = 116 then nI 1 else if c = 114 then nI 2 else if c = 99 then nI 3 else if c = 102 then nI 4 else if c = 109 then nI 5 else -1
theorem zkl_t : ∀ j, j < 6 → zkl (zsg 6 j) = nI j := by decide +kernel
theorem zkl_f {c : Nat} (h : ∀ q, q < 6 → ¬ zsg 6 q = c) : zkl c = -1 := by
  unfold zkl
  have h0 := h 0 (by omega)
  have h1 := h 1 (by omega)
  have h2 := h 2 (by omega)
  have h3 := h 3 (by omega)
  have h4 := h 4 (by omega)
  have h5 := h 5 (by omega)
  rw [if_neg (fun z => h0 (by rw [z]; decide)), if_neg (fun z => h1 (by rw [z]; decide)), if_neg (fun z => h2 (by rw [z]; decide)), if_neg (fun z => h3 (by rw [z]; decide)), if_neg (fun z => h4 (by rw [z]; decide)), if_neg (fun z => h5 (by rw [z]; decide))]
theorem zkl_n {c : Nat} : zkl c = -1 ∨ ∃ k, k < 6 ∧ zkl c = nI k := by
  unfold zkl
  split
  · exact Or.inr ⟨0, by omega, rfl⟩
  · split
    · exact Or.inr ⟨1, by omega, rfl⟩
    · split
      · exact Or.inr ⟨2, by omega, rfl⟩
      · split
        · exact Or.inr ⟨3, by omega, rfl⟩
        · split
          · exact Or.inr ⟨4, by omega, rfl⟩
          · split
            · exact Or.inr ⟨5, by omega, rfl⟩
            · exact Or.inl rfl
/-- does letter c fit the sign? -/
def zft (c s : Nat) : Bool := if s = 100 then decide (48 ≤ c ∧ c ≤ 57) else if s = 107 then decide (¬ zkl c < 0) else decide (c = s)
def zsh (c : Nat) : Nat := if c = 102 then 1 else if c = 112 then 2 else if c = 97 ∨ c = 121 then 3 else if c = 111 ∨ c = 115 then 4 else if c = 104 then 5 else 0
theorem zsh_lt (c : Nat) : zsh c < 6 := by
  unfold zsh
  repeat' split
  all_goals omega
/-- a switch over a letter -/
theorem zw_tabG {M : zM} {n pc : Nat} {X : zCx} {lv : List (Option Value)} {st : List Value} {σ : zSt} {dflt lo hi off : Int} {offs : Array Int} {len c tgt : Nat} (hB : zB M n X) (hd : decode M.2.1 pc = .ok (.tableswitch dflt lo hi offs, len)) (hc : c < 256) (h : (if (c : Int) < lo ∨ hi < (c : Int) then some dflt else offs[((c : Int) - lo).toNat]?) = some off) (ht : (pc : Int) + off = (tgt : Int)) (k : zW X tgt lv st σ) : zW X pc lv (.int (nI c) :: st) σ := by
  have e : (nI c).toInt = (c : Int) := nI_toInt (by omega)
  by_cases q : (c : Int) < lo ∨ hi < (c : Int)
  · rw [if_pos q] at h
    cases h
    exact zw_tabOut hB hd (by rw [e]; exact q) ht k
  · rw [if_neg q] at h
    exact zw_tabIn hB hd (by rw [e]; exact fun z => q (Or.inl z)) (by rw [e]; exact fun z => q (Or.inr z)) (by rw [e]; exact h) ht k

theorem s_J0_coder_7d493 {n : Nat} {σ : zSt}  {i : Nat} (hi : i < 7) : zSem n mJ0_coder_7d493 [.ref (100 + i)] σ (zP σ (.int (0 : Int32))) := by
  refine zSem.of (by decide +kernel) (Nat.le_of_ble_eq_true rfl) (fun X hB hR => ?_)
  show zW X 0 [some (.ref (100 + i))] [] σ
  refine zw_compact hB dJ0_coder_7d493_0 zj_compact_J0 ?_
  refine zw_if_eq (tgt := 13) hB dJ0_coder_7d493_3 (by decide) (fun c3 => by first | exact absurd c3 (by decide) | exact absurd (by decide) c3 | omega) (fun c3 => ?_)
  refine zw_aload0 hB dJ0_coder_7d493_6 ?_
  refine zw_scoder (i := i) hi hB dJ0_coder_7d493_7 zj_coder ?_
  refine zw_goto (tgt := 14) hB dJ0_coder_7d493_10 (by decide) ?_
  refine zw_zret hB hR dJ0_coder_7d493_14 rfl (by decide) ?_
  exact ⟨rfl, rfl⟩
theorem s_J0_length_8abf5 {n : Nat} {σ : zSt}  {i : Nat} (hi : i < 7) : zSem (n + 1) mJ0_length_8abf5 [.ref (100 + i)] σ (zP σ (.int (nI (zln i)))) := by
  refine zSem.of (by decide +kernel) (Nat.le_of_ble_eq_true rfl) (fun X hB hR => ?_)
  show zW X 0 [some (.ref (100 + i))] [] σ
  refine zw_aload0 hB dJ0_length_8abf5_0 ?_
  refine zw_svalue (i := i) hi hB dJ0_length_8abf5_1 zj_value ?_
  refine zw_slen (i := i) hi hB dJ0_length_8abf5_4 ?_
  refine zw_aload0 hB dJ0_length_8abf5_5 ?_
  refine zw_callV0P (M' := mJ0_coder_7d493) hB dJ0_length_8abf5_6 zl_J0_335 zg_J0_coder_7d493 (zRc.st (k := i) hi) (s_J0_coder_7d493 hi) ?_
  refine zw_ishr hB dJ0_length_8abf5_9 ?_
  rw [zshr0 i hi]
  refine zw_iret hB hR dJ0_length_8abf5_10 rfl ?_
  exact ⟨rfl, rfl⟩
theorem s_J0_isEmpty_aae02 {n : Nat} {σ : zSt}  {i : Nat} (hi : i < 7) : zSem n mJ0_isEmpty_aae02 [.ref (100 + i)] σ (zP σ (.int (zb (zln i = 0)))) := by
  refine zSem.of (by decide +kernel) (Nat.le_of_ble_eq_true rfl) (fun X hB hR => ?_)
  show zW X 0 [some (.ref (100 + i))] [] σ
  refine zw_aload0 hB dJ0_isEmpty_aae02_0 ?_
  refine zw_svalue (i := i) hi hB dJ0_isEmpty_aae02_1 zj_value ?_
  refine zw_slen (i := i) hi hB dJ0_isEmpty_aae02_4 ?_
  have hln := zln_lt i hi
  refine zw_eqI (y := nI (zln i)) rfl ?_
  refine zw_if_ne (tgt := 12) hB dJ0_isEmpty_aae02_5 (by decide) (fun c5 => ?_) (fun c5 => ?_)
  · refine zw_iconst (x := nI 0) hB dJ0_isEmpty_aae02_12 (by decide) ?_
    refine zw_zret hB hR dJ0_isEmpty_aae02_13 rfl (by decide) ?_
    exact ⟨by rw [zb_f (fun z => c5 (by rw [z]; rfl))]; rfl, rfl⟩
  · refine zw_iconst (x := nI 1) hB dJ0_isEmpty_aae02_8 (by decide) ?_
    refine zw_goto (tgt := 13) hB dJ0_isEmpty_aae02_9 (by decide) ?_
    refine zw_zret hB hR dJ0_isEmpty_aae02_13 rfl (by decide) ?_
    exact ⟨by rw [zb_t ((nI_eq (a := zln i) (b := 0) (by omega) (by omega)).mp c5)]; rfl, rfl⟩
theorem s_J0_isLatin1_aae02 {n : Nat} {σ : zSt}  {i : Nat} (hi : i < 7) : zSem n mJ0_isLatin1_aae02 [.ref (100 + i)] σ (zP σ (.int (nI 1))) := by
  refine zSem.of (by decide +kernel) (Nat.le_of_ble_eq_true rfl) (fun X hB hR => ?_)
  show zW X 0 [some (.ref (100 + i))] [] σ
  refine zw_compact hB dJ0_isLatin1_aae02_0 zj_compact_J0 ?_
  refine zw_if_eq (tgt := 17) hB dJ0_isLatin1_aae02_3 (by decide) (fun c3 => by first | exact absurd c3 (by decide) | exact absurd (by decide) c3 | omega) (fun c3 => ?_)
  refine zw_aload0 hB dJ0_isLatin1_aae02_6 ?_
  refine zw_scoder (i := i) hi hB dJ0_isLatin1_aae02_7 zj_coder ?_
  refine zw_if_ne (tgt := 17) hB dJ0_isLatin1_aae02_10 (by decide) (fun c10 => by first | exact absurd c10 (by decide) | exact absurd (by decide) c10 | omega) (fun c10 => ?_)
  refine zw_iconst (x := nI 1) hB dJ0_isLatin1_aae02_13 (by decide) ?_
  refine zw_goto (tgt := 18) hB dJ0_isLatin1_aae02_14 (by decide) ?_
  refine zw_zret hB hR dJ0_isLatin1_aae02_18 rfl (by decide) ?_
  exact ⟨rfl, rfl⟩
theorem s_J3_checkIndex_a {n : Nat} {σ : zSt}  {a b : Nat} (hab : a < b) (hb : b < 2 ^ 31) : zSem n mJ3_checkIndex_8e157 [.int (nI a), .int (nI b), .null] σ (zP σ (.int (nI a))) := by
  refine zSem.of (by decide +kernel) (Nat.le_of_ble_eq_true rfl) (fun X hB hR => ?_)
  show zW X 0 [some (.int (nI a)), some (.int (nI b)), some (.null)] [] σ
  refine zw_iload0 hB dJ3_checkIndex_8e157_0 ?_
  refine zw_if_lt (tgt := 9) hB dJ3_checkIndex_8e157_1 (by decide) (fun c1 => by first | exact absurd c1 (nI_pos (by omega)) | exact absurd (nI_pos (by omega)) c1 | omega) (fun c1 => ?_)
  refine zw_iload0 hB dJ3_checkIndex_8e157_4 ?_
  refine zw_iload1 hB dJ3_checkIndex_8e157_5 ?_
  refine zw_icmp_ltN (tgt := 16) hB dJ3_checkIndex_8e157_6 (by decide) (by omega) (by omega) (fun c6 => ?_) (fun c6 => by first | exact absurd hab c6 | exact absurd c6 hab | omega)
  refine zw_iload0 hB dJ3_checkIndex_8e157_16 ?_
  refine zw_iret hB hR dJ3_checkIndex_8e157_17 rfl ?_
  exact ⟨rfl, rfl⟩
theorem s_J3_checkIndex_b {n : Nat} {σ : zSt}  {a b : Nat} (hab : a < b) (hb : b < 2 ^ 31) : zSem n mJ3_checkIndex_8e157 [.int (nI a), .int (nI b), .ref 130] σ (zP σ (.int (nI a))) := by
  refine zSem.of (by decide +kernel) (Nat.le_of_ble_eq_true rfl) (fun X hB hR => ?_)
  show zW X 0 [some (.int (nI a)), some (.int (nI b)), some (.ref 130)] [] σ
  refine zw_iload0 hB dJ3_checkIndex_8e157_0 ?_
  refine zw_if_lt (tgt := 9) hB dJ3_checkIndex_8e157_1 (by decide) (fun c1 => by first | exact absurd c1 (nI_pos (by omega)) | exact absurd (nI_pos (by omega)) c1 | omega) (fun c1 => ?_)
  refine zw_iload0 hB dJ3_checkIndex_8e157_4 ?_
  refine zw_iload1 hB dJ3_checkIndex_8e157_5 ?_
  refine zw_icmp_ltN (tgt := 16) hB dJ3_checkIndex_8e157_6 (by decide) (by omega) (by omega) (fun c6 => ?_) (fun c6 => by first | exact absurd hab c6 | exact absurd c6 hab | omega)
  refine zw_iload0 hB dJ3_checkIndex_8e157_16 ?_
  refine zw_iret hB hR dJ3_checkIndex_8e157_17 rfl ?_
  exact ⟨rfl, rfl⟩
theorem s_J0_checkIndex_df160 {n : Nat} {σ : zSt}  {a b : Nat} (hab : a < b) (hb : b < 2 ^ 31) : zSem (n + 1) mJ0_checkIndex_df160 [.int (nI a), .int (nI b)] σ (zVo σ) := by
  refine zSem.of (by decide +kernel) (Nat.le_of_ble_eq_true rfl) (fun X hB hR => ?_)
  show zW X 0 [some (.int (nI a)), some (.int (nI b))] [] σ
  refine zw_iload0 hB dJ0_checkIndex_df160_0 ?_
  refine zw_iload1 hB dJ0_checkIndex_df160_1 ?_
  refine zw_fmt hB dJ0_checkIndex_df160_2 zj_fmt (fun v hv => ?_)
  rcases hv with rfl | rfl
  · refine zw_callS3P (M' := mJ3_checkIndex_8e157) hB dJ0_checkIndex_df160_5 zl_J0_1059 zg_J3_checkIndex_8e157 (s_J3_checkIndex_a hab hb) ?_
    refine zw_pop hB dJ0_checkIndex_df160_8 rfl ?_
    refine zw_vret hB hR dJ0_checkIndex_df160_9 rfl ?_
    exact ⟨rfl, rfl⟩
  · refine zw_callS3P (M' := mJ3_checkIndex_8e157) hB dJ0_checkIndex_df160_5 zl_J0_1059 zg_J3_checkIndex_8e157 (s_J3_checkIndex_b hab hb) ?_
    refine zw_pop hB dJ0_checkIndex_df160_8 rfl ?_
    refine zw_vret hB hR dJ0_checkIndex_df160_9 rfl ?_
    exact ⟨rfl, rfl⟩
theorem s_J1_charAt_3b067 {n : Nat} {σ : zSt}  {i : Nat} (hi : i < 7) {j : Nat} (hj : j < zln i) : zSem (n + 2) mJ1_charAt_3b067 [.ref (110 + i), .int (nI j)] σ (zP σ (.int (nI (zsg i j)))) := by
  refine zSem.of (by decide +kernel) (Nat.le_of_ble_eq_true rfl) (fun X hB hR => ?_)
  show zW X 0 [some (.ref (110 + i)), some (.int (nI j))] [] σ
  have hln := zln_lt i hi
  refine zw_iload1 hB dJ1_charAt_3b067_0 ?_
  refine zw_aload0 hB dJ1_charAt_3b067_1 ?_
  refine zw_slen (i := i) hi hB dJ1_charAt_3b067_2 ?_
  refine zw_callS2U (M' := mJ0_checkIndex_df160) hB dJ1_charAt_3b067_3 zl_J1_9 zg_J0_checkIndex_df160 (s_J0_checkIndex_df160 (b := zln i) hj (by omega)) ?_
  refine zw_aload0 hB dJ1_charAt_3b067_6 ?_
  refine zw_iload1 hB dJ1_charAt_3b067_7 ?_
  refine zw_sbyte (i := i) hi hB dJ1_charAt_3b067_8 (vp_in_nI hj (show zln i < 2 ^ 31 by omega)) ?_
  rw [nI_clamp (by omega), zsg_e i hi j hj]
  refine zw_sipush (x := nI 255) hB dJ1_charAt_3b067_9 (by decide) ?_
  refine zw_iand hB dJ1_charAt_3b067_12 ?_
  refine zw_i2c hB dJ1_charAt_3b067_13 ?_
  rw [zsg_c _ (zsg_lt i hi j hj)]
  refine zw_zret hB hR dJ1_charAt_3b067_14 rfl (znar_c _ (zsg_lt i hi j hj)) ?_
  exact ⟨rfl, rfl⟩
theorem s_J0_charAt_5068e {n : Nat} {σ : zSt}  {i : Nat} (hi : i < 7) {j : Nat} (hj : j < zln i) : zSem (n + 3) mJ0_charAt_5068e [.ref (100 + i), .int (nI j)] σ (zP σ (.int (nI (zsg i j)))) := by
  refine zSem.of (by decide +kernel) (Nat.le_of_ble_eq_true rfl) (fun X hB hR => ?_)
  show zW X 0 [some (.ref (100 + i)), some (.int (nI j))] [] σ
  refine zw_aload0 hB dJ0_charAt_5068e_0 ?_
  refine zw_callV0P (M' := mJ0_isLatin1_aae02) hB dJ0_charAt_5068e_1 zl_J0_492 zg_J0_isLatin1_aae02 (zRc.st (k := i) hi) (s_J0_isLatin1_aae02 hi) ?_
  refine zw_eqI (y := zb (0 = 0)) (zb_t rfl).symm ?_
  refine zw_if_eq (tgt := 16) hB dJ0_charAt_5068e_4 (by decide) (fun c4 => by first | exact absurd c4 (by decide) | exact absurd (by decide) c4 | omega) (fun c4 => ?_)
  refine zw_aload0 hB dJ0_charAt_5068e_7 ?_
  refine zw_svalue (i := i) hi hB dJ0_charAt_5068e_8 zj_value ?_
  refine zw_iload1 hB dJ0_charAt_5068e_11 ?_
  refine zw_callS2P (M' := mJ1_charAt_3b067) hB dJ0_charAt_5068e_12 zl_J0_495 zg_J1_charAt_3b067 (s_J1_charAt_3b067 hi hj) ?_
  refine zw_zret hB hR dJ0_charAt_5068e_15 rfl (znar_c _ (zsg_lt i hi j hj)) ?_
  exact ⟨rfl, rfl⟩
theorem s_J1_canEncode_9a6ad {n : Nat} {σ : zSt}  {c : Nat} (hc : c < 256) : zSem n mJ1_canEncode_9a6ad [.int (nI c)] σ (zP σ (.int (nI 1))) := by
  refine zSem.of (by decide +kernel) (Nat.le_of_ble_eq_true rfl) (fun X hB hR => ?_)
  show zW X 0 [some (.int (nI c))] [] σ
  refine zw_iload0 hB dJ1_canEncode_9a6ad_0 ?_
  refine zw_if_lt (tgt := 15) hB dJ1_canEncode_9a6ad_1 (by decide) (fun c1 => by first | exact absurd c1 (nI_pos (by omega)) | exact absurd (nI_pos (by omega)) c1 | omega) (fun c1 => ?_)
  refine zw_iload0 hB dJ1_canEncode_9a6ad_4 ?_
  refine zw_sipush (x := nI 255) hB dJ1_canEncode_9a6ad_5 (by decide) ?_
  refine zw_icmp_gtN (tgt := 15) hB dJ1_canEncode_9a6ad_8 (by decide) (by omega) (by omega) (fun c8 => by first | exact absurd c8 (by omega) | exact absurd (by omega) c8 | omega) (fun c8 => ?_)
  refine zw_iconst (x := nI 1) hB dJ1_canEncode_9a6ad_11 (by decide) ?_
  refine zw_goto (tgt := 16) hB dJ1_canEncode_9a6ad_12 (by decide) ?_
  refine zw_zret hB hR dJ1_canEncode_9a6ad_16 rfl (by decide) ?_
  exact ⟨rfl, rfl⟩
theorem s_J1_indexOfChar_4cfef {n : Nat} {σ : zSt}  {c : Nat} (hc : c < 256) : zSem n mJ1_indexOfChar_4cfef [.ref 116, .int (nI c), .int (nI 0), .int (nI 6)] σ (zP σ (.int (zkl c))) := by
  refine zSem.of (by decide +kernel) (Nat.le_of_ble_eq_true rfl) (fun X hB hR => ?_)
  show zW X 0 [some (.ref 116), some (.int (nI c)), some (.int (nI 0)), some (.int (nI 6)), none, none] [] σ
  have hl : ∀ j, j ≤ 6 → (∀ q, q < j → ¬ zsg 6 q = c) → zW X 7 [some (.ref 116), some (.int (nI c)), some (.int (nI 0)), some (.int (nI 6)), some (.int (nI c).toInt8.toInt32), some (.int (nI j))] [] σ := by
    refine zfor 6 (fun j hj ih => ?_)
    intro hh
    refine zw_iload5 hB dJ1_indexOfChar_4cfef_7 ?_
    refine zw_iload3 hB dJ1_indexOfChar_4cfef_9 ?_
    refine zw_icmp_geN (tgt := 31) hB dJ1_indexOfChar_4cfef_10 (by decide) (by omega) (by omega) (fun c10 => ?_) (fun c10 => ?_)
    · refine zw_iconst (x := -1) hB dJ1_indexOfChar_4cfef_31 (by decide) ?_
      refine zw_iret hB hR dJ1_indexOfChar_4cfef_32 rfl ?_
      exact ⟨by rw [zkl_f (fun q hq => hh q (by omega))], rfl⟩
    · refine zw_aload0 hB dJ1_indexOfChar_4cfef_13 ?_
      refine zw_iload5 hB dJ1_indexOfChar_4cfef_14 ?_
      refine zw_sbyte (i := 6) (by decide) hB dJ1_indexOfChar_4cfef_16 (vp_in_nI (show j < zlen.getD 6 0 from c10) (by decide)) ?_
      rw [nI_clamp (by omega), zsg_e 6 (by omega) j c10]
      refine zw_iload4 hB dJ1_indexOfChar_4cfef_17 ?_
      refine zw_icmp_ne (tgt := 25) hB dJ1_indexOfChar_4cfef_19 (by decide) (fun c19 => ?_) (fun c19 => ?_)
      · refine zw_iinc5 hB dJ1_indexOfChar_4cfef_25 (by first | exact zinc _ | rfl) (by first | rfl | assumption) ?_
        refine zw_goto (tgt := 7) hB dJ1_indexOfChar_4cfef_28 (by decide) ?_
        refine ih c10 (fun q hq z => ?_)
        by_cases e : q = j
        · rw [e] at z
          exact c19 ((zi2b c hc _ (zsg_lt 6 (by omega) j c10)).mpr z.symm).symm
        · exact hh q (by omega) z
      · refine zw_iload5 hB dJ1_indexOfChar_4cfef_22 ?_
        refine zw_iret hB hR dJ1_indexOfChar_4cfef_24 rfl ?_
        have e9 := (zi2b c hc _ (zsg_lt 6 (by omega) j c10)).mp c19.symm
        exact ⟨by rw [e9, zkl_t j c10], rfl⟩
  refine zw_iload1 hB dJ1_indexOfChar_4cfef_0 ?_
  refine zw_i2b hB dJ1_indexOfChar_4cfef_1 ?_
  refine zw_istore4 hB dJ1_indexOfChar_4cfef_2 (by first | rfl | assumption) ?_
  refine zw_iload2 hB dJ1_indexOfChar_4cfef_4 ?_
  refine zw_istore5 hB dJ1_indexOfChar_4cfef_5 (by first | rfl | assumption) ?_
  exact hl 0 (by omega) (fun q hq => absurd hq (by omega))
theorem s_J1_indexOf_4cfef {n : Nat} {σ : zSt}  {c : Nat} (hc : c < 256) : zSem (n + 1) mJ1_indexOf_4cfef [.ref 116, .int (nI c), .int (nI 0), .int (nI 6)] σ (zP σ (.int (zkl c))) := by
  refine zSem.of (by decide +kernel) (Nat.le_of_ble_eq_true rfl) (fun X hB hR => ?_)
  show zW X 0 [some (.ref 116), some (.int (nI c)), some (.int (nI 0)), some (.int (nI 6))] [] σ
  refine zw_iload1 hB dJ1_indexOf_4cfef_0 ?_
  refine zw_callS1P (M' := mJ1_canEncode_9a6ad) hB dJ1_indexOf_4cfef_1 zl_J1_88 zg_J1_canEncode_9a6ad (s_J1_canEncode_9a6ad hc) ?_
  refine zw_eqI (y := zb (0 = 0)) (zb_t rfl).symm ?_
  refine zw_if_ne (tgt := 9) hB dJ1_indexOf_4cfef_4 (by decide) (fun c4 => ?_) (fun c4 => by first | exact absurd (by decide) c4 | exact absurd c4 (by decide) | omega)
  refine zw_iload2 hB dJ1_indexOf_4cfef_9 ?_
  refine zw_iconst (x := nI 0) hB dJ1_indexOf_4cfef_10 (by decide) ?_
  refine zw_max hB dJ1_indexOf_4cfef_11 zl_J1_92 (by first | exact Nat.le_of_ble_eq_true rfl | decide) ?_
  refine zw_eqI (y := nI 0) (by decide) ?_
  refine zw_istore2 hB dJ1_indexOf_4cfef_14 (by first | rfl | assumption) ?_
  refine zw_iload3 hB dJ1_indexOf_4cfef_15 ?_
  refine zw_aload0 hB dJ1_indexOf_4cfef_16 ?_
  refine zw_slen (i := 6) (by decide) hB dJ1_indexOf_4cfef_17 ?_
  refine zw_min hB dJ1_indexOf_4cfef_18 zl_J1_38 (by first | exact Nat.le_of_ble_eq_true rfl | decide) ?_
  refine zw_eqI (y := nI 6) (by decide) ?_
  refine zw_istore3 hB dJ1_indexOf_4cfef_21 (by first | rfl | assumption) ?_
  refine zw_iload2 hB dJ1_indexOf_4cfef_22 ?_
  refine zw_iload3 hB dJ1_indexOf_4cfef_23 ?_
  refine zw_icmp_lt (tgt := 29) hB dJ1_indexOf_4cfef_24 (by decide) (fun c24 => ?_) (fun c24 => by first | exact absurd (by decide) c24 | exact absurd c24 (by decide) | omega)
  refine zw_aload0 hB dJ1_indexOf_4cfef_29 ?_
  refine zw_iload1 hB dJ1_indexOf_4cfef_30 ?_
  refine zw_iload2 hB dJ1_indexOf_4cfef_31 ?_
  refine zw_iload3 hB dJ1_indexOf_4cfef_32 ?_
  refine zw_callS4P (M' := mJ1_indexOfChar_4cfef) hB dJ1_indexOf_4cfef_33 zl_J1_95 zg_J1_indexOfChar_4cfef (s_J1_indexOfChar_4cfef hc) ?_
  refine zw_iret hB hR dJ1_indexOf_4cfef_36 rfl ?_
  exact ⟨rfl, rfl⟩
theorem s_J0_indexOf_7cf53 {n : Nat} {σ : zSt}  {c : Nat} (hc : c < 256) : zSem (n + 2) mJ0_indexOf_7cf53 [.ref 106, .int (nI c), .int (nI 0)] σ (zP σ (.int (zkl c))) := by
  refine zSem.of (by decide +kernel) (Nat.le_of_ble_eq_true rfl) (fun X hB hR => ?_)
  show zW X 0 [some (.ref 106), some (.int (nI c)), some (.int (nI 0))] [] σ
  refine zw_aload0 hB dJ0_indexOf_7cf53_0 ?_
  refine zw_callV0P (M' := mJ0_isLatin1_aae02) hB dJ0_indexOf_7cf53_1 zl_J0_492 zg_J0_isLatin1_aae02 (zRc.st (k := 6) (by decide)) (s_J0_isLatin1_aae02 (i := 6) (by decide)) ?_
  refine zw_eqI (y := zb (0 = 0)) (zb_t rfl).symm ?_
  refine zw_if_eq (tgt := 23) hB dJ0_indexOf_7cf53_4 (by decide) (fun c4 => by first | exact absurd c4 (by decide) | exact absurd (by decide) c4 | omega) (fun c4 => ?_)
  refine zw_aload0 hB dJ0_indexOf_7cf53_7 ?_
  refine zw_svalue (i := 6) (by decide) hB dJ0_indexOf_7cf53_8 zj_value ?_
  refine zw_iload1 hB dJ0_indexOf_7cf53_11 ?_
  refine zw_iload2 hB dJ0_indexOf_7cf53_12 ?_
  refine zw_aload0 hB dJ0_indexOf_7cf53_13 ?_
  refine zw_callV0P (M' := mJ0_length_8abf5) hB dJ0_indexOf_7cf53_14 zl_J0_505 zg_J0_length_8abf5 (zRc.st (k := 6) (by decide)) (s_J0_length_8abf5 (i := 6) (by decide)) ?_
  refine zw_callS4P (M' := mJ1_indexOf_4cfef) hB dJ0_indexOf_7cf53_17 zl_J0_637 zg_J1_indexOf_4cfef (s_J1_indexOf_4cfef hc) ?_
  refine zw_goto (tgt := 36) hB dJ0_indexOf_7cf53_20 (by decide) ?_
  refine zw_iret hB hR dJ0_indexOf_7cf53_36 rfl ?_
  exact ⟨rfl, rfl⟩
theorem s_J0_indexOf_0f7a4 {n : Nat} {σ : zSt}  {c : Nat} (hc : c < 256) : zSem (n + 3) mJ0_indexOf_0f7a4 [.ref 106, .int (nI c)] σ (zP σ (.int (zkl c))) := by
  refine zSem.of (by decide +kernel) (Nat.le_of_ble_eq_true rfl) (fun X hB hR => ?_)
  show zW X 0 [some (.ref 106), some (.int (nI c))] [] σ
  refine zw_aload0 hB dJ0_indexOf_0f7a4_0 ?_
  refine zw_iload1 hB dJ0_indexOf_0f7a4_1 ?_
  refine zw_iconst (x := nI 0) hB dJ0_indexOf_0f7a4_2 (by decide) ?_
  refine zw_callV2P (M' := mJ0_indexOf_7cf53) hB dJ0_indexOf_0f7a4_3 zl_J0_633 zg_J0_indexOf_7cf53 (zRc.st (k := 6) (by decide)) (s_J0_indexOf_7cf53 hc) ?_
  refine zw_iret hB hR dJ0_indexOf_0f7a4_6 rfl ?_
  exact ⟨rfl, rfl⟩
theorem s_X0_ofLetter {n : Nat} {σ : zSt}  {c : Nat} (hc : c < 256) : zSem (n + 4) mX0_ofLetter [.int (nI c)] σ (zP σ (.int (zkl c))) := by
  refine zSem.of (by decide +kernel) (Nat.le_of_ble_eq_true rfl) (fun X hB hR => ?_)
  show zW X 0 [some (.int (nI c))] [] σ
  refine zw_ldcS (i := 6) (tx := "wtrcfm") hB dX0_ofLetter_0 (by decide +kernel) ?_
  refine zw_iload0 hB dX0_ofLetter_2 ?_
  refine zw_i2c hB dX0_ofLetter_3 ?_
  rw [zi2c c hc]
  refine zw_callV1P (M' := mJ0_indexOf_0f7a4) hB dX0_ofLetter_4 zl_X0_11 zg_J0_indexOf_0f7a4 (zRc.st (k := 6) (by decide)) (s_J0_indexOf_0f7a4 hc) ?_
  refine zw_iret hB hR dX0_ofLetter_7 rfl ?_
  exact ⟨rfl, rfl⟩
theorem s_X2_fits {n : Nat} {σ : zSt}  {c s : Nat} (hc : c < 256) (hs : s < 256) : zSem (n + 5) mX2_fits [.int (nI c), .int (nI s)] σ (zP σ (.int (zb (zft c s = true)))) := by
  refine zSem.of (by decide +kernel) (Nat.le_of_ble_eq_true rfl) (fun X hB hR => ?_)
  show zW X 0 [some (.int (nI c)), some (.int (nI s))] [] σ
  refine zw_iload1 hB dX2_fits_0 ?_
  refine zw_bipush (x := nI 100) hB dX2_fits_1 (by decide) ?_
  refine zw_icmp_neN (tgt := 24) hB dX2_fits_3 (by decide) (by omega) (by omega) (fun c3 => ?_) (fun c3 => ?_)
  · refine zw_iload1 hB dX2_fits_24 ?_
    refine zw_bipush (x := nI 107) hB dX2_fits_25 (by decide) ?_
    refine zw_icmp_neN (tgt := 45) hB dX2_fits_27 (by decide) (by omega) (by omega) (fun c27 => ?_) (fun c27 => ?_)
    · refine zw_iload0 hB dX2_fits_45 ?_
      refine zw_iload1 hB dX2_fits_46 ?_
      refine zw_icmp_neN (tgt := 54) hB dX2_fits_47 (by decide) (by omega) (by omega) (fun c47 => ?_) (fun c47 => ?_)
      · refine zw_iconst (x := nI 0) hB dX2_fits_54 (by decide) ?_
        refine zw_zret hB hR dX2_fits_55 rfl (by decide) ?_
        exact ⟨by unfold zft; rw [if_neg c3, if_neg c27, zb_f (by rw [decide_eq_true_eq]; exact c47)]; rfl, rfl⟩
      · refine zw_iconst (x := nI 1) hB dX2_fits_50 (by decide) ?_
        refine zw_goto (tgt := 55) hB dX2_fits_51 (by decide) ?_
        refine zw_zret hB hR dX2_fits_55 rfl (by decide) ?_
        exact ⟨by unfold zft; rw [if_neg c3, if_neg c27, zb_t (by rw [decide_eq_true_eq]; exact c47)]; rfl, rfl⟩
    · refine zw_iload0 hB dX2_fits_30 ?_
      refine zw_callS1P (M' := mX0_ofLetter) hB dX2_fits_31 zl_X2_60 zg_X0_ofLetter (s_X0_ofLetter hc) ?_
      refine zw_if_lt (tgt := 41) hB dX2_fits_34 (by decide) (fun c34 => ?_) (fun c34 => ?_)
      · refine zw_iconst (x := nI 0) hB dX2_fits_41 (by decide) ?_
        refine zw_goto (tgt := 55) hB dX2_fits_42 (by decide) ?_
        refine zw_zret hB hR dX2_fits_55 rfl (by decide) ?_
        exact ⟨by unfold zft; rw [if_neg c3, if_pos c27, zb_f (by rw [decide_eq_true_eq]; exact fun z => z c34)]; rfl, rfl⟩
      · refine zw_iconst (x := nI 1) hB dX2_fits_37 (by decide) ?_
        refine zw_goto (tgt := 55) hB dX2_fits_38 (by decide) ?_
        refine zw_zret hB hR dX2_fits_55 rfl (by decide) ?_
        exact ⟨by unfold zft; rw [if_neg c3, if_pos c27, zb_t (by rw [decide_eq_true_eq]; exact c34)]; rfl, rfl⟩
  · refine zw_iload0 hB dX2_fits_6 ?_
    refine zw_bipush (x := nI 48) hB dX2_fits_7 (by decide) ?_
    refine zw_icmp_ltN (tgt := 22) hB dX2_fits_9 (by decide) (by omega) (by omega) (fun c9 => ?_) (fun c9 => ?_)
    · refine zw_iconst (x := nI 0) hB dX2_fits_22 (by decide) ?_
      refine zw_zret hB hR dX2_fits_23 rfl (by decide) ?_
      exact ⟨by unfold zft; rw [if_pos c3, zb_f (by rw [decide_eq_true_eq]; omega)]; rfl, rfl⟩
    · refine zw_iload0 hB dX2_fits_12 ?_
      refine zw_bipush (x := nI 57) hB dX2_fits_13 (by decide) ?_
      refine zw_icmp_gtN (tgt := 22) hB dX2_fits_15 (by decide) (by omega) (by omega) (fun c15 => ?_) (fun c15 => ?_)
      · refine zw_iconst (x := nI 0) hB dX2_fits_22 (by decide) ?_
        refine zw_zret hB hR dX2_fits_23 rfl (by decide) ?_
        exact ⟨by unfold zft; rw [if_pos c3, zb_f (by rw [decide_eq_true_eq]; omega)]; rfl, rfl⟩
      · refine zw_iconst (x := nI 1) hB dX2_fits_18 (by decide) ?_
        refine zw_goto (tgt := 23) hB dX2_fits_19 (by decide) ?_
        refine zw_zret hB hR dX2_fits_23 rfl (by decide) ?_
        exact ⟨by unfold zft; rw [if_pos c3, zb_t (by rw [decide_eq_true_eq]; omega)]; rfl, rfl⟩
theorem zshd0 : (List.range 256).all (fun c => (c == 102 || c == 112 || c == 97 || c == 121 || c == 111 || c == 115 || c == 104) || ((if (c : Int) < 97 ∨ 121 < (c : Int) then some (130 : Int) else (#[121, 130, 130, 130, 130, 115, 130, 127, 130, 130, 130, 130, 130, 130, 124, 118, 130, 130, 124, 130, 130, 130, 130, 130, 121] : Array Int)[((c : Int) - 97).toNat]?) == some 130)) = true := by decide +kernel
theorem zshd {c : Nat} (hc : c < 256) (q102 : ¬ c = 102) (q112 : ¬ c = 112) (q97 : ¬ c = 97) (q121 : ¬ c = 121) (q111 : ¬ c = 111) (q115 : ¬ c = 115) (q104 : ¬ c = 104) : (if (c : Int) < 97 ∨ 121 < (c : Int) then some (130 : Int) else (#[121, 130, 130, 130, 130, 115, 130, 127, 130, 130, 130, 130, 130, 130, 124, 118, 130, 130, 124, 130, 130, 130, 130, 130, 121] : Array Int)[((c : Int) - 97).toNat]?) = some 130 := by
  have h := List.all_eq_true.mp zshd0 c (List.mem_range.mpr hc)
  rcases Bool.or_eq_true_iff.mp h with h | h
  · simp only [Bool.or_eq_true, beq_iff_eq] at h
    omega
  · exact eq_of_beq h
theorem s_X2_shapeBehind {n : Nat} {σ : zSt}  {c : Nat} (hc : c < 256) : zSem n mX2_shapeBehind [.int (nI c)] σ (fun v τ => v = some (.ref (100 + zsh c)) ∧ τ = σ) := by
  refine zSem.of (by decide +kernel) (Nat.le_of_ble_eq_true rfl) (fun X hB hR => ?_)
  show zW X 0 [some (.int (nI c))] [] σ
  by_cases q102 : c = 102
  · subst q102
    refine zw_iload0 hB dX2_shapeBehind_0 ?_
    refine zw_tabG (off := 115) (tgt := 116) hB dX2_shapeBehind_1 (by decide) (by decide) (by decide) ?_
    refine zw_ldcS (i := 1) (tx := "dddddd;") hB dX2_shapeBehind_116 (by decide +kernel) ?_
    refine zw_aret hB hR dX2_shapeBehind_118 rfl ?_
    exact ⟨rfl, rfl⟩
  by_cases q112 : c = 112
  · subst q112
    refine zw_iload0 hB dX2_shapeBehind_0 ?_
    refine zw_tabG (off := 118) (tgt := 119) hB dX2_shapeBehind_1 (by decide) (by decide) (by decide) ?_
    refine zw_ldcS (i := 2) (tx := "kd;") hB dX2_shapeBehind_119 (by decide +kernel) ?_
    refine zw_aret hB hR dX2_shapeBehind_121 rfl ?_
    exact ⟨rfl, rfl⟩
  by_cases q97 : c = 97
  · subst q97
    refine zw_iload0 hB dX2_shapeBehind_0 ?_
    refine zw_tabG (off := 121) (tgt := 122) hB dX2_shapeBehind_1 (by decide) (by decide) (by decide) ?_
    refine zw_ldcS (i := 3) (tx := "dd;") hB dX2_shapeBehind_122 (by decide +kernel) ?_
    refine zw_aret hB hR dX2_shapeBehind_124 rfl ?_
    exact ⟨rfl, rfl⟩
  by_cases q121 : c = 121
  · subst q121
    refine zw_iload0 hB dX2_shapeBehind_0 ?_
    refine zw_tabG (off := 121) (tgt := 122) hB dX2_shapeBehind_1 (by decide) (by decide) (by decide) ?_
    refine zw_ldcS (i := 3) (tx := "dd;") hB dX2_shapeBehind_122 (by decide +kernel) ?_
    refine zw_aret hB hR dX2_shapeBehind_124 rfl ?_
    exact ⟨rfl, rfl⟩
  by_cases q111 : c = 111
  · subst q111
    refine zw_iload0 hB dX2_shapeBehind_0 ?_
    refine zw_tabG (off := 124) (tgt := 125) hB dX2_shapeBehind_1 (by decide) (by decide) (by decide) ?_
    refine zw_ldcS (i := 4) (tx := "d;") hB dX2_shapeBehind_125 (by decide +kernel) ?_
    refine zw_aret hB hR dX2_shapeBehind_127 rfl ?_
    exact ⟨rfl, rfl⟩
  by_cases q115 : c = 115
  · subst q115
    refine zw_iload0 hB dX2_shapeBehind_0 ?_
    refine zw_tabG (off := 124) (tgt := 125) hB dX2_shapeBehind_1 (by decide) (by decide) (by decide) ?_
    refine zw_ldcS (i := 4) (tx := "d;") hB dX2_shapeBehind_125 (by decide +kernel) ?_
    refine zw_aret hB hR dX2_shapeBehind_127 rfl ?_
    exact ⟨rfl, rfl⟩
  by_cases q104 : c = 104
  · subst q104
    refine zw_iload0 hB dX2_shapeBehind_0 ?_
    refine zw_tabG (off := 127) (tgt := 128) hB dX2_shapeBehind_1 (by decide) (by decide) (by decide) ?_
    refine zw_ldcS (i := 5) (tx := "dddd;") hB dX2_shapeBehind_128 (by decide +kernel) ?_
    refine zw_aret hB hR dX2_shapeBehind_130 rfl ?_
    exact ⟨rfl, rfl⟩
  refine zw_iload0 hB dX2_shapeBehind_0 ?_
  refine zw_tabG (off := 130) (tgt := 131) hB dX2_shapeBehind_1 hc (zshd hc q102 q112 q97 q121 q111 q115 q104) (by decide) ?_
  refine zw_ldcS (i := 0) (tx := "") hB dX2_shapeBehind_131 (by decide +kernel) ?_
  refine zw_aret hB hR dX2_shapeBehind_133 rfl ?_
  exact ⟨by unfold zsh; rw [if_neg q102, if_neg q112, if_neg (fun z => z.elim q97 q121), if_neg (fun z => z.elim q111 q115), if_neg q104], rfl⟩
