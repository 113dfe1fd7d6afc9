/-! LETTERS: the class's first pass -/
/-- the letters' codes -/
def zlc (l : List Int32) (i : Nat) : Nat := (l.getD i 0).toNatClampNeg
theorem zlc_n {l : List Int32} (h : ∀ x ∈ l, ∃ c, c ≤ 255 ∧ x = nI c) {i : Nat} (hi : i < l.length) : l.getD i 0 = nI (zlc l i) ∧ zlc l i < 256 := by
  obtain ⟨c, hc, e⟩ := h (l.getD i 0) (by rw [List.getD_eq_getElem?_getD, List.getElem?_eq_getElem hi]; exact List.getElem_mem hi)
  have : zlc l i = c := by rw [zlc, e, nI_clamp (by omega)]
  rw [this]
  exact ⟨e, by omega⟩
/-- the first pass from L - k on: shape s of which q signs are seen -/
def zcm (g : Nat → Nat) (L : Nat) : Nat → Nat → Nat → Option Nat
  | 0, s, q => if L = 0 ∨ q < zln s then some L else none
  | k + 1, s, q => if q = zln s then (if zsh (g (L - (k + 1))) = 0 then some (L - (k + 1)) else zcm g L k (zsh (g (L - (k + 1)))) 0) else if zft (g (L - (k + 1))) (zsg s q) = true then zcm g L k s (q + 1) else some (L - (k + 1))
theorem zln0 : ∀ s, s < 6 → (zln s = 0 ↔ s = 0) := by decide +kernel

theorem s_X2_toldAt {n : Nat} {σ : zSt}  {l : List Int32} (hL : σ 25 1 = nI l.length) (h96 : l.length ≤ 96) (hA : zArr (σ 26) l) (hc : ∀ x ∈ l, ∃ c, c ≤ 255 ∧ x = nI c) {i : Nat} (hi : i < l.length) : zSem n mX2_toldAt [.ref 25, .int (nI i)] σ (zP σ (.int (nI (zlc l i)))) := by
  refine zSem.of (by decide +kernel) (Nat.le_of_ble_eq_true rfl) (fun X hB hR => ?_)
  show zW X 0 [some (.ref 25), some (.int (nI i))] [] σ
  refine zw_iload1 hB dX2_toldAt_0 ?_
  refine zw_if_lt (tgt := 21) hB dX2_toldAt_1 (by decide) (fun c1 => by first | exact absurd c1 (nI_pos (by omega)) | exact absurd (nI_pos (by omega)) c1 | omega) (fun c1 => ?_)
  refine zw_iload1 hB dX2_toldAt_4 ?_
  refine zw_aload0 hB dX2_toldAt_5 ?_
  refine zw_getfV (x := nI l.length) hB dX2_toldAt_6 zf_X2_15 rfl rfl (hL) ?_
  refine zw_icmp_geN (tgt := 21) hB dX2_toldAt_9 (by decide) (by omega) (by omega) (fun c9 => by first | exact absurd c9 (by omega) | exact absurd (by omega) c9 | omega) (fun c9 => ?_)
  refine zw_aload0 hB dX2_toldAt_12 ?_
  refine zw_getfR hB dX2_toldAt_13 zf_X2_9 rfl rfl ?_
  refine zw_iload1 hB dX2_toldAt_16 ?_
  refine zw_ialdV (x := nI (zlc l i)) hB dX2_toldAt_17 rfl (by omega) (by decide) ((hA i hi).trans (zlc_n hc hi).1) ?_
  refine zw_goto (tgt := 22) hB dX2_toldAt_18 (by decide) ?_
  refine zw_iret hB hR dX2_toldAt_22 rfl ?_
  exact ⟨rfl, rfl⟩
theorem s_X2_digit {n : Nat} {σ : zSt}  {l : List Int32} (hL : σ 25 1 = nI l.length) (h96 : l.length ≤ 96) (hA : zArr (σ 26) l) (hc : ∀ x ∈ l, ∃ c, c ≤ 255 ∧ x = nI c) {i : Nat} (hi : i < l.length) (h48 : 48 ≤ zlc l i) : zSem (n + 1) mX2_digit [.ref 25, .int (nI i)] σ (zP σ (.int (nI (zlc l i - 48)))) := by
  refine zSem.of (by decide +kernel) (Nat.le_of_ble_eq_true rfl) (fun X hB hR => ?_)
  show zW X 0 [some (.ref 25), some (.int (nI i))] [] σ
  refine zw_aload0 hB dX2_digit_0 ?_
  refine zw_iload1 hB dX2_digit_1 ?_
  refine zw_callV1P (M' := mX2_toldAt) hB dX2_digit_2 zl_X2_107 zg_X2_toldAt (zRc.of rfl rfl rfl) (s_X2_toldAt hL h96 hA hc hi) ?_
  refine zw_bipush (x := nI 48) hB dX2_digit_5 (by decide) ?_
  refine zw_isub hB dX2_digit_7 ?_
  rw [pk_sub h48]
  refine zw_iret hB hR dX2_digit_8 rfl ?_
  exact ⟨rfl, rfl⟩
theorem s_X2_number {n : Nat} {σ : zSt}  {l : List Int32} (hL : σ 25 1 = nI l.length) (h96 : l.length ≤ 96) (hA : zArr (σ 26) l) (hc : ∀ x ∈ l, ∃ c, c ≤ 255 ∧ x = nI c) {i : Nat} (hi : i + 1 < l.length) (h48 : 48 ≤ zlc l i) (h49 : 48 ≤ zlc l (i + 1)) : zSem (n + 2) mX2_number [.ref 25, .int (nI i)] σ (zP σ (.int (nI (10 * (zlc l i - 48) + (zlc l (i + 1) - 48))))) := by
  refine zSem.of (by decide +kernel) (Nat.le_of_ble_eq_true rfl) (fun X hB hR => ?_)
  show zW X 0 [some (.ref 25), some (.int (nI i))] [] σ
  refine zw_bipush (x := nI 10) hB dX2_number_0 (by decide) ?_
  refine zw_aload0 hB dX2_number_2 ?_
  refine zw_iload1 hB dX2_number_3 ?_
  refine zw_callV1P (M' := mX2_digit) hB dX2_number_4 zl_X2_72 zg_X2_digit (zRc.of rfl rfl rfl) (s_X2_digit hL h96 hA hc (by omega) (by omega)) ?_
  refine zw_imul hB dX2_number_7 ?_
  refine zw_aload0 hB dX2_number_8 ?_
  refine zw_iload1 hB dX2_number_9 ?_
  refine zw_iconst (x := nI 1) hB dX2_number_10 (by decide) ?_
  refine zw_iaddN hB dX2_number_11 ?_
  refine zw_callV1P (M' := mX2_digit) hB dX2_number_12 zl_X2_72 zg_X2_digit (zRc.of rfl rfl rfl) (s_X2_digit hL h96 hA hc (by omega) (by omega)) ?_
  refine zw_iadd hB dX2_number_15 ?_
  rw [pk_mul, nI_add]
  refine zw_iret hB hR dX2_number_16 rfl ?_
  exact ⟨rfl, rfl⟩
theorem s_X2_placeOfWrongLetter {n : Nat} {σ : zSt}  {l : List Int32} (hL : σ 25 1 = nI l.length) (h96 : l.length ≤ 96) (hA : zArr (σ 26) l) (hc : ∀ x ∈ l, ∃ c, c ≤ 255 ∧ x = nI c) : zSem (n + 6) mX2_placeOfWrongLetter [.ref 25] σ (zP σ (.int (zopt (zcm (zlc l) l.length l.length 0 0)))) := by
  refine zSem.of (by decide +kernel) (Nat.le_of_ble_eq_true rfl) (fun X hB hR => ?_)
  show zW X 0 [some (.ref 25), none, none, none] [] σ
  have hl : ∀ k, k ≤ l.length → ∀ s q p : Nat, s < 6 → q ≤ zln s → p = l.length - k → zcm (zlc l) l.length l.length 0 0 = zcm (zlc l) l.length k s q → zW X 7 [some (.ref 25), some (.ref (100 + s)), some (.int (nI q)), some (.int (nI p))] [] σ := by
    intro k
    induction k with
    | zero =>
      intro _ s q p hs hq hp he
      have hs7 : s < 7 := by omega
      have hlz := zln_lt s hs7
      have hp : p = l.length := by omega
      rw [hp]
      rw [he] at hR
      refine zw_iload3 hB dX2_placeOfWrongLetter_7 ?_
      refine zw_aload0 hB dX2_placeOfWrongLetter_8 ?_
      refine zw_getfV (x := nI l.length) hB dX2_placeOfWrongLetter_9 zf_X2_15 rfl rfl (hL) ?_
      refine zw_icmp_geN (tgt := 75) hB dX2_placeOfWrongLetter_12 (by decide) (by omega) (by omega) (fun c12 => ?_) (fun c12 => by first | exact absurd (by omega) c12 | exact absurd c12 (by omega) | omega)
      refine zw_aload0 hB dX2_placeOfWrongLetter_75 ?_
      refine zw_getfV (x := nI l.length) hB dX2_placeOfWrongLetter_76 zf_X2_15 rfl rfl (hL) ?_
      refine zw_if_eq (tgt := 90) hB dX2_placeOfWrongLetter_79 (by decide) (fun c79 => ?_) (fun c79 => ?_)
      · refine zw_aload0 hB dX2_placeOfWrongLetter_90 ?_
        refine zw_getfV (x := nI l.length) hB dX2_placeOfWrongLetter_91 zf_X2_15 rfl rfl (hL) ?_
        refine zw_goto (tgt := 99) hB dX2_placeOfWrongLetter_94 (by decide) ?_
        refine zw_iret hB hR dX2_placeOfWrongLetter_99 rfl ?_
        have e0 := (nI_eq (a := l.length) (b := 0) (by omega) (by omega)).mp c79
        exact ⟨by show _ = some (Value.int (zopt (if l.length = 0 ∨ q < zln s then some l.length else none))); rw [if_pos (Or.inl e0)]; rfl, rfl⟩
      · refine zw_iload2 hB dX2_placeOfWrongLetter_82 ?_
        refine zw_aload1 hB dX2_placeOfWrongLetter_83 ?_
        refine zw_callV0P (M' := mJ0_length_8abf5) hB dX2_placeOfWrongLetter_84 zl_X2_31 zg_J0_length_8abf5 (zRc.st (k := s) hs7) (s_J0_length_8abf5 hs7) ?_
        refine zw_icmp_geN (tgt := 97) hB dX2_placeOfWrongLetter_87 (by decide) (by omega) (by omega) (fun c87 => ?_) (fun c87 => ?_)
        · refine zw_bipush (x := -9) hB dX2_placeOfWrongLetter_97 (by decide) ?_
          refine zw_iret hB hR dX2_placeOfWrongLetter_99 rfl ?_
          have e0 : ¬ l.length = 0 := fun z => c79 (by rw [z]; rfl)
          exact ⟨by show _ = some (Value.int (zopt (if l.length = 0 ∨ q < zln s then some l.length else none))); rw [if_neg (fun z => z.elim e0 (by omega))]; rfl, rfl⟩
        · refine zw_aload0 hB dX2_placeOfWrongLetter_90 ?_
          refine zw_getfV (x := nI l.length) hB dX2_placeOfWrongLetter_91 zf_X2_15 rfl rfl (hL) ?_
          refine zw_goto (tgt := 99) hB dX2_placeOfWrongLetter_94 (by decide) ?_
          refine zw_iret hB hR dX2_placeOfWrongLetter_99 rfl ?_
          exact ⟨by show _ = some (Value.int (zopt (if l.length = 0 ∨ q < zln s then some l.length else none))); rw [if_pos (Or.inr (by omega))]; rfl, rfl⟩
    | succ k ih =>
      intro hk s q p hs hq hp he
      have hs7 : s < 7 := by omega
      have hlz := zln_lt s hs7
      rw [hp]
      refine zw_iload3 hB dX2_placeOfWrongLetter_7 ?_
      refine zw_aload0 hB dX2_placeOfWrongLetter_8 ?_
      refine zw_getfV (x := nI l.length) hB dX2_placeOfWrongLetter_9 zf_X2_15 rfl rfl (hL) ?_
      refine zw_icmp_geN (tgt := 75) hB dX2_placeOfWrongLetter_12 (by decide) (by omega) (by omega) (fun c12 => by first | exact absurd c12 (by omega) | exact absurd (by omega) c12 | omega) (fun c12 => ?_)
      refine zw_iload2 hB dX2_placeOfWrongLetter_15 ?_
      refine zw_aload1 hB dX2_placeOfWrongLetter_16 ?_
      refine zw_callV0P (M' := mJ0_length_8abf5) hB dX2_placeOfWrongLetter_17 zl_X2_31 zg_J0_length_8abf5 (zRc.st (k := s) hs7) (s_J0_length_8abf5 hs7) ?_
      refine zw_icmp_neN (tgt := 44) hB dX2_placeOfWrongLetter_20 (by decide) (by omega) (by omega) (fun c20 => ?_) (fun c20 => ?_)
      · refine zw_aload0 hB dX2_placeOfWrongLetter_44 ?_
        refine zw_getfR hB dX2_placeOfWrongLetter_45 zf_X2_9 rfl rfl ?_
        refine zw_iload3 hB dX2_placeOfWrongLetter_48 ?_
        refine zw_ialdV (x := nI (zlc l (l.length - (k + 1)))) hB dX2_placeOfWrongLetter_49 rfl (by omega) (by decide) ((hA _ (by omega)).trans (zlc_n hc (by omega)).1) ?_
        refine zw_aload1 hB dX2_placeOfWrongLetter_50 ?_
        refine zw_iload2 hB dX2_placeOfWrongLetter_51 ?_
        refine zw_callV1P (M' := mJ0_charAt_5068e) hB dX2_placeOfWrongLetter_52 zl_X2_42 zg_J0_charAt_5068e (zRc.st (k := s) hs7) (s_J0_charAt_5068e hs7 (by omega)) ?_
        refine zw_callS2P (M' := mX2_fits) hB dX2_placeOfWrongLetter_55 zl_X2_46 zg_X2_fits (s_X2_fits (zlc_n hc (by omega)).2 (by have := zsg_lt s hs7 q (by omega); omega)) ?_
        refine zw_if_eqB (tgt := 67) hB dX2_placeOfWrongLetter_58 (by decide) (fun c58 => ?_) (fun c58 => ?_)
        · refine zw_iload3 hB dX2_placeOfWrongLetter_67 ?_
          refine zw_iret hB hR dX2_placeOfWrongLetter_68 rfl ?_
          have e1 : zcm (zlc l) l.length (k + 1) s q = some (l.length - (k + 1)) := by
            show (if q = zln s then _ else if zft (zlc l (l.length - (k + 1))) (zsg s q) = true then _ else _) = _
            rw [if_neg c20, if_neg c58]
          exact ⟨by rw [he, e1]; rfl, rfl⟩
        · refine zw_iinc2 hB dX2_placeOfWrongLetter_61 (by first | exact zinc _ | rfl) (by first | rfl | assumption) ?_
          refine zw_goto (tgt := 69) hB dX2_placeOfWrongLetter_64 (by decide) ?_
          refine zw_iinc3 hB dX2_placeOfWrongLetter_69 (by first | exact zinc _ | rfl) (by first | rfl | assumption) ?_
          refine zw_goto (tgt := 7) hB dX2_placeOfWrongLetter_72 (by decide) ?_
          have e1 : zcm (zlc l) l.length (k + 1) s q = zcm (zlc l) l.length k s (q + 1) := by
            show (if q = zln s then _ else if zft (zlc l (l.length - (k + 1))) (zsg s q) = true then _ else _) = _
            rw [if_neg c20, if_pos c58]
          exact ih (by omega) s (q + 1) _ hs (by omega) (by omega) (he.trans e1)
      · refine zw_aload0 hB dX2_placeOfWrongLetter_23 ?_
        refine zw_getfR hB dX2_placeOfWrongLetter_24 zf_X2_9 rfl rfl ?_
        refine zw_iload3 hB dX2_placeOfWrongLetter_27 ?_
        refine zw_ialdV (x := nI (zlc l (l.length - (k + 1)))) hB dX2_placeOfWrongLetter_28 rfl (by omega) (by decide) ((hA _ (by omega)).trans (zlc_n hc (by omega)).1) ?_
        refine zw_callS1 (M' := mX2_shapeBehind) hB dX2_placeOfWrongLetter_29 zl_X2_27 zg_X2_shapeBehind (s_X2_shapeBehind (zlc_n hc (by omega)).2) (fun v29 σ29 hq29 => ?_)
        obtain ⟨rfl, e29⟩ := hq29
        rw [e29]
        have hz6 := zsh_lt (zlc l (l.length - (k + 1)))
        have hz7 : (zsh (zlc l (l.length - (k + 1)))) < 7 := by omega
        refine zw_astore1 hB dX2_placeOfWrongLetter_32 (by first | rfl | assumption) ?_
        refine zw_iconst (x := nI 0) hB dX2_placeOfWrongLetter_33 (by decide) ?_
        refine zw_istore2 hB dX2_placeOfWrongLetter_34 (by first | rfl | assumption) ?_
        refine zw_aload1 hB dX2_placeOfWrongLetter_35 ?_
        refine zw_callV0P (M' := mJ0_isEmpty_aae02) hB dX2_placeOfWrongLetter_36 zl_X2_38 zg_J0_isEmpty_aae02 (zRc.st (k := (zsh (zlc l (l.length - (k + 1))))) hz7) (s_J0_isEmpty_aae02 (i := (zsh (zlc l (l.length - (k + 1))))) hz7) ?_
        refine zw_if_eqB (tgt := 69) hB dX2_placeOfWrongLetter_39 (by decide) (fun c39 => ?_) (fun c39 => ?_)
        · refine zw_iinc3 hB dX2_placeOfWrongLetter_69 (by first | exact zinc _ | rfl) (by first | rfl | assumption) ?_
          refine zw_goto (tgt := 7) hB dX2_placeOfWrongLetter_72 (by decide) ?_
          have e1 : zcm (zlc l) l.length (k + 1) s q = zcm (zlc l) l.length k (zsh (zlc l (l.length - (k + 1)))) 0 := by
            show (if q = zln s then (if (zsh (zlc l (l.length - (k + 1)))) = 0 then _ else _) else _) = _
            rw [if_pos c20, if_neg (fun z => c39 ((zln0 _ hz6).mpr z))]
          exact ih (by omega) (zsh (zlc l (l.length - (k + 1)))) 0 _ hz6 (by omega) (by omega) (he.trans e1)
        · refine zw_iload3 hB dX2_placeOfWrongLetter_42 ?_
          refine zw_iret hB hR dX2_placeOfWrongLetter_43 rfl ?_
          have e1 : zcm (zlc l) l.length (k + 1) s q = some (l.length - (k + 1)) := by
            show (if q = zln s then (if (zsh (zlc l (l.length - (k + 1)))) = 0 then _ else _) else _) = _
            rw [if_pos c20, if_pos ((zln0 _ hz6).mp c39)]
          exact ⟨by rw [he, e1]; rfl, rfl⟩
  refine zw_ldcS (i := 0) (tx := "") hB dX2_placeOfWrongLetter_0 (by decide +kernel) ?_
  refine zw_astore1 hB dX2_placeOfWrongLetter_2 (by first | rfl | assumption) ?_
  refine zw_iconst (x := nI 0) hB dX2_placeOfWrongLetter_3 (by decide) ?_
  refine zw_istore2 hB dX2_placeOfWrongLetter_4 (by first | rfl | assumption) ?_
  refine zw_iconst (x := nI 0) hB dX2_placeOfWrongLetter_5 (by decide) ?_
  refine zw_istore3 hB dX2_placeOfWrongLetter_6 (by first | rfl | assumption) ?_
  exact hl l.length (Nat.le_refl _) 0 0 0 (by omega) (Nat.zero_le _) (by omega) rfl
