/-! LETTERS: told to land; the class's call -/
theorem zcm_le {g : Nat → Nat} {L : Nat} : ∀ k s q x, zcm g L k s q = some x → x ≤ L := by
  intro k
  induction k with
  | zero =>
    intro s q x h
    have h : (if L = 0 ∨ q < zln s then some L else none) = some x := h
    split at h
    · cases h; exact Nat.le_refl _
    · cases h
  | succ k ih =>
    intro s q x h
    have h : (if q = zln s then (if zsh (g (L - (k + 1))) = 0 then some (L - (k + 1)) else zcm g L k (zsh (g (L - (k + 1)))) 0) else if zft (g (L - (k + 1))) (zsg s q) = true then zcm g L k s (q + 1) else some (L - (k + 1))) = some x := h
    split at h
    · split at h
      · cases h; omega
      · exact ih _ _ _ h
    · split at h
      · exact ih _ _ _ h
      · cases h; omega
theorem zm1 : ∀ q, q < 97 → (-1000 - nI q : Int32) < 0 := by decide +kernel
theorem zm2 : ∀ q, q < 97 → (-2000 - nI q : Int32) < 0 := by decide +kernel
theorem zla_f {l : List Int32} {r : zRw} {q : Nat} (h : zpf (zlc l) l.length (l.length + 1) 0 = some q) : zla l r = (-1000 - nI q, r) := by
  unfold zla; rw [h]
theorem zla_o {l : List Int32} {r r' : zRw} {m : Nat} (h : zpf (zlc l) l.length (l.length + 1) 0 = none) (hx : zxr (zlc l) l.length (l.length + 1) 0 0 r = (none, m, r')) : zla l r = (nI m, r') := by
  unfold zla; rw [h]
  show (zxa (zxr _ _ _ _ _ _), match (zxr _ _ _ _ _ _).1 with | none => (zxr _ _ _ _ _ _).2.2 | some _ => r) = _
  rw [hx]; rfl
theorem zla_b {l : List Int32} {r r' : zRw} {m b : Nat} (h : zpf (zlc l) l.length (l.length + 1) 0 = none) (hx : zxr (zlc l) l.length (l.length + 1) 0 0 r = (some b, m, r')) : zla l r = (-2000 - nI b, r) := by
  unfold zla; rw [h]
  show (zxa (zxr _ _ _ _ _ _), match (zxr _ _ _ _ _ _).1 with | none => (zxr _ _ _ _ _ _).2.2 | some _ => r) = _
  rw [hx]; rfl
theorem zpf_s {g : Nat → Nat} {L n b : Nat} (h : zpf g L (n + 1) b = none) : zsx g L b = none ∧ (znx g b < L → zpf g L n (znx g b) = none) := by
  have h : (match zsx g L b with | some q => some q | none => if znx g b < L then zpf g L n (znx g b) else none) = none := h
  cases e : zsx g L b with
  | some q => rw [e] at h; cases h
  | none =>
    rw [e] at h
    refine ⟨rfl, fun c => ?_⟩
    have h : (if znx g b < L then zpf g L n (znx g b) else none) = none := h
    rwa [if_pos c] at h
theorem zxr_n {g : Nat → Nat} {L n b m : Nat} {r : zRw} (h : zdo g b r = none) : zxr g L (n + 1) b m r = (some b, m, r) := by
  show (match zdo g b r with | none => (some b, m, r) | some r' => if znx g b < L then zxr g L n (znx g b) (m + 1) r' else (none, m + 1, r')) = _
  rw [h]
theorem zxr_s {g : Nat → Nat} {L n b m : Nat} {r r' : zRw} (h : zdo g b r = some r') (c : znx g b < L) : zxr g L (n + 1) b m r = zxr g L n (znx g b) (m + 1) r' := by
  show (match zdo g b r with | none => (some b, m, r) | some r' => if znx g b < L then zxr g L n (znx g b) (m + 1) r' else (none, m + 1, r')) = _
  rw [h]
  exact if_pos c
theorem zxr_e {g : Nat → Nat} {L n b m : Nat} {r r' : zRw} (h : zdo g b r = some r') (c : ¬ znx g b < L) : zxr g L (n + 1) b m r = (none, m + 1, r') := by
  show (match zdo g b r with | none => (some b, m, r) | some r' => if znx g b < L then zxr g L n (znx g b) (m + 1) r' else (none, m + 1, r')) = _
  rw [h]
  exact if_neg c

theorem s_X2_tellTo {n : Nat} {σ : zSt}  {l : List Int32} (hL : σ 25 1 = nI l.length) (h96 : l.length ≤ 96) (hA : zArr (σ 26) l) (hc : ∀ x ∈ l, ∃ c, c ≤ 255 ∧ x = nI c) (hln : zLn (zrow σ 17)) : zSem (n + 7) mX2_tellTo [.ref 25, .ref 17] σ (fun v τ => v = some (.int (zla l (zrow σ 17)).1) ∧ zOut 17 σ τ ∧ (((zla l (zrow σ 17)).1 < 0 ∧ (zla l (zrow σ 17)).2 = (zrow σ 17)) ∨ (¬ (zla l (zrow σ 17)).1 < 0 ∧ zrow τ 17 = (zla l (zrow σ 17)).2))) := by
  refine zSem.of (by decide +kernel) (Nat.le_of_ble_eq_true rfl) (fun X hB hR => ?_)
  show zW X 0 [some (.ref 25), some (.ref 17), none, none, none] [] σ
  have hcm := @zcm_0 (zlc l) l.length
  have hexit : zpf (zlc l) l.length (l.length + 1) 0 = none → ∀ (υ : zSt) (a2 : Option Value) (m b : Nat) (r : zRw), l.length ≤ b → zrow υ 17 = r → zOut 17 σ υ → m < 1000 ∧ b < 1000 → zxr (zlc l) l.length (l.length + 1) 0 0 (zrow σ 17) = (none, m, r) → zW X 22 [some (.ref 25), some (.ref 17), a2, some (.int (nI (m))), some (.int (nI (b)))] [] υ := by
    intro hz υ a2 m b r hb zu ou hm hx
    obtain ⟨hm, hb9⟩ := hm
    refine zw_iload4 hB dX2_tellTo_22 ?_
    refine zw_aload0 hB dX2_tellTo_24 ?_
    refine zw_getfV (x := nI l.length) hB dX2_tellTo_25 zf_X2_15 rfl rfl ((congrFun (ou 25 (by omega)) 1).trans hL) ?_
    refine zw_icmp_geN (tgt := 74) hB dX2_tellTo_28 (by decide) (by omega) (by omega) (fun c28 => ?_) (fun c28 => by first | exact absurd hb c28 | exact absurd c28 hb | omega)
    refine zw_iload3 hB dX2_tellTo_74 ?_
    refine zw_iret hB hR dX2_tellTo_75 rfl ?_
    have e9 := zla_o hz hx
    exact ⟨by rw [e9], ou, Or.inr ⟨by rw [e9]; exact nI_pos (by omega), by rw [e9]; exact zu⟩⟩
  have hl : zpf (zlc l) l.length (l.length + 1) 0 = none → ∀ (a2 : Option Value), zc1 a2 = true → ∀ n (υ : zSt) (m b : Nat) (r : zRw), b < l.length → zpf (zlc l) l.length n b = none → zLn r → zrow υ 17 = r → zOut 17 σ υ → m ≤ b → zxr (zlc l) l.length (l.length + 1) 0 0 (zrow σ 17) = zxr (zlc l) l.length n b m r → zW X 22 [some (.ref 25), some (.ref 17), a2, some (.int (nI (m))), some (.int (nI (b)))] [] υ := by
    intro hz a2 k2 n
    induction n with
    | zero =>
      intro υ m b r hb hp
      cases hp
    | succ n ih =>
      intro υ m b r hb hp hr zu ou hm hx
      have hp := zpf_s hp
      have hs := hp.1
      have hexit := fun υ => hexit hz υ a2
      refine zw_iload4 hB dX2_tellTo_22 ?_
      refine zw_aload0 hB dX2_tellTo_24 ?_
      refine zw_getfV (x := nI l.length) hB dX2_tellTo_25 zf_X2_15 rfl rfl ((congrFun (ou 25 (by omega)) 1).trans hL) ?_
      refine zw_icmp_geN (tgt := 74) hB dX2_tellTo_28 (by decide) (by omega) (by omega) (fun c28 => by first | exact absurd c28 (by omega) | exact absurd (by omega) c28 | omega) (fun c28 => ?_)
      refine zw_aload0 hB dX2_tellTo_31 ?_
      refine zw_aload1 hB dX2_tellTo_32 ?_
      refine zw_iload4 hB dX2_tellTo_33 ?_
      refine zw_callV2 (M' := mX2_comes) hB dX2_tellTo_35 zl_X2_23 zg_X2_comes (zRc.of rfl rfl rfl) (s_X2_comes (l := l) ((congrFun (ou 25 (by omega)) 1).trans hL) h96 (by rw [ou 26 (by omega)]; exact hA) hc (by rw [zu]; exact hr) hs) (fun v35 σ35 hq35 => ?_)
      obtain ⟨rfl, y1, y2⟩ := hq35
      rw [zu]
      refine zw_if_neB (tgt := 48) hB dX2_tellTo_38 (by decide) (fun c38 => ?_) (fun c38 => ?_)
      · obtain ⟨r2, er2⟩ := Option.isSome_iff_exists.mp c38
        have zr2 := y1 r2 (by rw [zu]; exact er2)
        refine zw_iinc3 hB dX2_tellTo_48 (by first | exact zinc _ | rfl) (by first | rfl | assumption) ?_
        refine zw_iload4 hB dX2_tellTo_51 ?_
        refine zw_iconst (x := nI 1) hB dX2_tellTo_53 (by decide) ?_
        refine zw_aload0 hB dX2_tellTo_54 ?_
        refine zw_getfR hB dX2_tellTo_55 zf_X2_9 rfl rfl ?_
        refine zw_iload4 hB dX2_tellTo_58 ?_
        refine zw_ialdV (x := nI (zlc l b)) hB dX2_tellTo_60 rfl (by omega) (by decide) (by rw [y2 26 (by omega), ou 26 (by omega)]; exact (hA b (by omega)).trans (zlc_n hc (by omega)).1) ?_
        refine zw_callS1 (M' := mX2_shapeBehind) hB dX2_tellTo_61 zl_X2_27 zg_X2_shapeBehind (s_X2_shapeBehind (zlc_n hc (by omega)).2) (fun v61 σ61 hq61 => ?_)
        obtain ⟨rfl, e61⟩ := hq61
        rw [e61]
        have hz6 := zsh_lt (zlc l b)
        have hz7 : zsh (zlc l b) < 7 := by omega
        have hln := zln_lt _ hz7
        refine zw_callV0P (M' := mJ0_length_8abf5) hB dX2_tellTo_64 zl_X2_31 zg_J0_length_8abf5 (zRc.st (k := zsh (zlc l b)) hz7) (s_J0_length_8abf5 (i := zsh (zlc l b)) hz7) ?_
        refine zw_iaddN hB dX2_tellTo_67 ?_
        refine zw_iaddN hB dX2_tellTo_68 ?_
        refine zw_eqI (y := nI (znx (zlc l) b)) (by unfold znx; congr 1; omega) ?_
        refine zw_istore4 hB dX2_tellTo_69 (by first | rfl | assumption) ?_
        refine zw_goto (tgt := 22) hB dX2_tellTo_71 (by decide) ?_
        have hbx : b < znx (zlc l) b := by unfold znx; omega
        have hnx : znx (zlc l) b ≤ 104 := by unfold znx; omega
        by_cases cn : znx (zlc l) b < l.length
        · exact ih _ _ _ _ cn (hp.2 cn) (zdo_ok hr hs er2) zr2 (ou.tr y2) (by omega) (by rw [hx, zxr_s er2 cn])
        · exact hexit _ _ _ _ (by omega) zr2 (ou.tr y2) (by omega) (by rw [hx, zxr_e er2 cn])
      · refine zw_sipush (x := -2000) hB dX2_tellTo_41 (by decide) ?_
        refine zw_iload4 hB dX2_tellTo_44 ?_
        refine zw_isub hB dX2_tellTo_46 ?_
        refine zw_iret hB hR dX2_tellTo_47 rfl ?_
        have en : zdo (zlc l) b r = none := by
          cases e : zdo (zlc l) b r with
          | none => rfl
          | some q => rw [e] at c38; exact absurd rfl c38
        have e9 := zla_b hz (hx.trans (zxr_n en))
        exact ⟨by rw [e9], ou.tr y2, Or.inl ⟨by rw [e9]; exact zm2 b (by omega), by rw [e9]⟩⟩
  refine zw_aload0 hB dX2_tellTo_0 ?_
  refine zw_callV0 (M' := mX2_placeOfWrongLetter) hB dX2_tellTo_1 zl_X2_19 zg_X2_placeOfWrongLetter (zRc.of rfl rfl rfl) (s_X2_placeOfWrongLetter hL h96 hA hc) (fun v1 σ1 hq1 => ?_)
  obtain ⟨rfl, e1⟩ := hq1
  rw [e1, hcm]
  refine zw_istore2 hB dX2_tellTo_4 (by first | rfl | assumption) ?_
  refine zw_iload2 hB dX2_tellTo_5 ?_
  refine zw_bipush (x := -9) hB dX2_tellTo_6 (by decide) ?_
  refine zw_icmp_eq (tgt := 17) hB dX2_tellTo_8 (by decide) (fun c8 => ?_) (fun c8 => ?_)
  · have hz : zpf (zlc l) l.length (l.length + 1) 0 = none := by
      cases e : zpf (zlc l) l.length (l.length + 1) 0 with
      | none => rfl
      | some q =>
        have hq := zcm_le _ _ _ _ (hcm.trans e)
        rw [e] at c8
        exact absurd c8 (nI_n9 (by omega))
    refine zw_iconst (x := nI 0) hB dX2_tellTo_17 (by decide) ?_
    refine zw_istore3 hB dX2_tellTo_18 (by first | rfl | assumption) ?_
    refine zw_iconst (x := nI 0) hB dX2_tellTo_19 (by decide) ?_
    refine zw_istore4 hB dX2_tellTo_20 (by first | rfl | assumption) ?_
    rcases Nat.eq_zero_or_pos l.length with h0 | h0
    · exfalso
      have hz2 := (zpf_s hz).1
      unfold zsx at hz2
      rw [if_pos (by omega)] at hz2
      cases hz2
    · exact hl hz _ rfl _ σ 0 0 _ h0 hz hln rfl zOut.rf (Nat.le_refl _) rfl
  · obtain ⟨q, eq⟩ : ∃ q, zpf (zlc l) l.length (l.length + 1) 0 = some q := by
      cases e : zpf (zlc l) l.length (l.length + 1) 0 with
      | none => rw [e] at c8; exact absurd rfl c8
      | some q => exact ⟨q, rfl⟩
    have hq := zcm_le _ _ _ _ (hcm.trans eq)
    rw [eq]
    refine zw_gen (fun σ0 e0 => ?_)
    rw [e0]
    refine zw_sipush (x := -1000) hB dX2_tellTo_11 (by decide) ?_
    refine zw_iload2 hB dX2_tellTo_14 ?_
    refine zw_isub hB dX2_tellTo_15 ?_
    refine zw_iret hB hR dX2_tellTo_16 rfl ?_
    have e9 := zla_f (r := zrow σ 17) eq
    exact ⟨by rw [e9]; rfl, zOut.rf, Or.inl ⟨by rw [e9]; exact zm1 q (by omega), by rw [e9]⟩⟩
theorem s_X5_land {n : Nat} {σ : zSt} {S : zS} (hS : zOk S) (h : zCW S σ)  : zSem (n + 8) mX5_land [.ref 0] σ (zCQ (q_land S ) σ) := by
  obtain ⟨⟨⟨F, P, hg0⟩, y0, hy0, ey0⟩, hkp, hlt, hrw⟩ := id hS
  have hnF := hg0.nF
  have hnP := hg0.nP
  have hr0 := h.1
  have hg : zGd (zrow σ 1) F P := by rw [hr0]; exact hg0
  have hF6 := hg.F6
  have hP6 := hg.P6
  have hF : σ 1 0 = nI F := hg.r0
  have hP : σ 1 1 = nI P := hg.r1
  unfold q_land
  try rw [hnF]
  try rw [hnP]
  refine zSem.of (by decide +kernel) (Nat.le_of_ble_eq_true rfl) (fun X hB hR => ?_)
  show zW X 0 [some (.ref 0), none] [] σ
  refine zw_aload0 hB dX5_land_0 ?_
  refine zw_getfR hB dX5_land_1 zf_X5_19 rfl rfl ?_
  refine zw_aload0 hB dX5_land_4 ?_
  refine zw_getfR hB dX5_land_5 zf_X5_10 rfl rfl ?_
  refine zw_callV1 (M' := mX1_become) hB dX5_land_8 zl_X5_70 zg_X1_become (zRc.of zld17.1 rfl rfl) (s_X1_become zld17 zld1 (by omega)) (fun v8 σ8 hq8 => ?_)
  obtain ⟨rfl, x1, x2⟩ := hq8
  have z17 : zrow σ8 17 = S.1 := x1.trans hr0
  refine zw_aload0 hB dX5_land_11 ?_
  refine zw_getfR hB dX5_land_12 zf_X5_25 rfl rfl ?_
  refine zw_aload0 hB dX5_land_15 ?_
  refine zw_getfR hB dX5_land_16 zf_X5_19 rfl rfl ?_
  refine zw_callV1 (M' := mX2_tellTo) hB dX5_land_19 zl_X5_74 zg_X2_tellTo (zRc.of rfl rfl rfl) (s_X2_tellTo (l := S.2.2.1) ((congrFun (x2 25 (by omega)) 1).trans h.2.2.1.1) hlt.1 (by rw [x2 26 (by omega)]; exact h.2.2.1.2) hlt.2 (by rw [z17]; exact hS.1)) (fun v19 σ19 hq19 => ?_)
  obtain ⟨rfl, y1, y2⟩ := hq19
  rw [z17] at y2 ⊢
  have o2 := x2.tr y1
  refine zw_istore1 hB dX5_land_22 (by first | rfl | assumption) ?_
  refine zw_iload1 hB dX5_land_23 ?_
  refine zw_if_lt (tgt := 38) hB dX5_land_24 (by decide) (fun c24 => ?_) (fun c24 => ?_)
  · refine zw_aload0 hB dX5_land_38 ?_
    refine zw_getfR hB dX5_land_39 zf_X5_25 rfl rfl ?_
    refine zw_iconst (x := nI 0) hB dX5_land_42 (by decide) ?_
    refine zw_putfI hB dX5_land_43 zfw_X5_66 rfl rfl ?_
    refine zw_iload1 hB dX5_land_46 ?_
    refine zw_iret hB hR dX5_land_47 rfl ?_
    have er : (zla S.2.2.1 S.1).2 = S.1 := by
      rcases y2 with ⟨_, e⟩ | ⟨e, _⟩
      · exact e
      · exact absurd c24 e
    have hC1 : zCW (S.1, S.2) σ19 := h.land ((zrow_congr (fun c _ _ => o2 c (by omega))).trans hr0) (fun c hc => o2 c (by omega))
    refine ⟨rfl, ?_, fun c hc => ?_⟩
    · rw [er]
      refine hC1.letL (fun c h1 h2 => zC_n h1) ?_ zArr.nil
      rw [zC_s]; exact zupd_s
    · rw [zC_n (by omega)]; exact o2 c (by omega)
  · refine zw_aload0 hB dX5_land_27 ?_
    refine zw_getfR hB dX5_land_28 zf_X5_10 rfl rfl ?_
    refine zw_aload0 hB dX5_land_31 ?_
    refine zw_getfR hB dX5_land_32 zf_X5_19 rfl rfl ?_
    refine zw_callV1 (M' := mX1_become) hB dX5_land_35 zl_X5_70 zg_X1_become (zRc.of zld1.1 rfl rfl) (s_X1_become zld1 zld17 (by omega)) (fun v35 σ35 hq35 => ?_)
    obtain ⟨rfl, w1, w2⟩ := hq35
    refine zw_aload0 hB dX5_land_38 ?_
    refine zw_getfR hB dX5_land_39 zf_X5_25 rfl rfl ?_
    refine zw_iconst (x := nI 0) hB dX5_land_42 (by decide) ?_
    refine zw_putfI hB dX5_land_43 zfw_X5_66 rfl rfl ?_
    refine zw_iload1 hB dX5_land_46 ?_
    refine zw_iret hB hR dX5_land_47 rfl ?_
    have er : zrow σ19 17 = (zla S.2.2.1 S.1).2 := by
      rcases y2 with ⟨e, _⟩ | ⟨_, e⟩
      · exact absurd e c24
      · exact e
    have o3 : ∀ c, 8 < c → (c < 17 ∨ 25 ≤ c) → σ35 c = σ c := fun c h1 h2 => (w2 c (by omega)).trans (o2 c (by omega))
    have hC1 : zCW ((zla S.2.2.1 S.1).2, S.2) σ35 := h.land (w1.trans er) (fun c hc => (w2 c (by omega)).trans (o2 c (by omega)))
    refine ⟨rfl, ?_, fun c hc => ?_⟩
    · refine hC1.letL (fun c h1 h2 => zC_n h1) ?_ zArr.nil
      rw [zC_s]; exact zupd_s
    · rw [zC_n (by omega)]; exact o3 c (by omega) (by omega)
