/-! THE REFERENCE'S CALLS: land -/
theorem zfo_1 {c : Prop} [Decidable c] {b d : Int32} (h : ¬ c) : zfo (znb c) b d = -1 := by
  unfold znb zfo
  rw [if_neg h, if_neg (by decide)]
theorem zfo_2 {c : Prop} [Decidable c] {b : Int32} (h : c) : zfo (znb c) b (nI 0) = b := by
  unfold znb zfo
  rw [if_pos h, if_pos nI_0]
  by_cases e : b = 0
  · rw [if_pos e, e]; rfl
  · rw [if_neg e]
theorem zfo_3 {c : Prop} [Decidable c] {b d : Int32} (h : c) (hb : b = 0) : zfo (znb c) b d = d := by
  unfold znb zfo
  rw [if_pos h, if_pos nI_0, if_pos hb]
theorem zfo_4 {c : Prop} [Decidable c] {b d : Int32} (h : c) (hb : ¬ b = 0) : zfo (znb c) b d = b := by
  unfold znb zfo
  rw [if_pos h, if_pos nI_0, if_neg hb]
theorem zis {v : Int32} {N : Nat} (hN : N < 2 ^ 29) : (nI 0 ≤ v ∧ v ≤ nI N) ↔ zIn v (N + 1) := by
  have e : nI (N + 1) - nI 1 = nI N := by rw [pk_sub (by omega)]; rfl
  have := zisin (v := v) (N := N + 1) (by omega)
  rw [e] at this
  exact this
theorem zou_t {w : Int32} {m : Nat} (hm : m < 2 ^ 29) (h : nI 0 ≤ w ∧ w ≤ nI m) : zou w (nI m) = 0 := by
  unfold zou
  have := (zis hm).mp h
  rw [if_pos ⟨this.1, Int32.not_lt.mpr h.2⟩]; rfl
theorem zou_f {w : Int32} {m : Nat} (hm : m < 2 ^ 29) (h : ¬ (nI 0 ≤ w ∧ w ≤ nI m)) : zou w (nI m) = -2 := by
  unfold zou
  rw [if_neg]
  rintro ⟨h1, h2⟩
  refine h ⟨?_, Int32.not_lt.mp h2⟩
  rw [nI_0]; exact Int32.not_lt.mp h1
/-- zou w 4 is 0 where w is one of the first or the last ones -/
theorem zou_in {j m : Nat} (hm : m < 2 ^ 29) (h : j ≤ m) : zou (nI j) (nI m) = 0 := zou_t hm ⟨by rw [nI_leI (by omega) (by omega)]; omega, by rw [nI_leI (by omega) (by omega)]; exact h⟩

theorem s_X6_wrongBy {n : Nat} {σ : zSt}  (v a m : Int32) : zSem n mX6_wrongBy [.int v, .int a, .int m] σ (zP σ (.int (zir v a m))) := by
  refine zSem.of (by decide +kernel) (Nat.le_of_ble_eq_true rfl) (fun X hB hR => ?_)
  show zW X 0 [some (.int v), some (.int a), some (.int m)] [] σ
  refine zw_iload0 hB dX6_wrongBy_0 ?_
  refine zw_iload1 hB dX6_wrongBy_1 ?_
  refine zw_icmp_ge (tgt := 10) hB dX6_wrongBy_2 (by decide) (fun c2 => ?_) (fun c2 => ?_)
  · refine zw_iload0 hB dX6_wrongBy_10 ?_
    refine zw_iload2 hB dX6_wrongBy_11 ?_
    refine zw_icmp_le (tgt := 20) hB dX6_wrongBy_12 (by decide) (fun c12 => ?_) (fun c12 => ?_)
    · refine zw_iconst (x := nI 0) hB dX6_wrongBy_20 (by decide) ?_
      refine zw_iret hB hR dX6_wrongBy_21 rfl ?_
      exact ⟨by unfold zir; rw [if_neg (Int32.not_lt.mpr c2), if_neg (Int32.not_lt.mpr c12)], rfl⟩
    · refine zw_bipush (x := -6) hB dX6_wrongBy_15 (by decide) ?_
      refine zw_goto (tgt := 21) hB dX6_wrongBy_17 (by decide) ?_
      refine zw_iret hB hR dX6_wrongBy_21 rfl ?_
      exact ⟨by unfold zir; rw [if_neg (Int32.not_lt.mpr c2), if_pos (Int32.not_le.mp c12)], rfl⟩
  · refine zw_bipush (x := -4) hB dX6_wrongBy_5 (by decide) ?_
    refine zw_goto (tgt := 21) hB dX6_wrongBy_7 (by decide) ?_
    refine zw_iret hB hR dX6_wrongBy_21 rfl ?_
    exact ⟨by unfold zir; rw [if_pos (Int32.not_le.mp c2)], rfl⟩
theorem s_X6_takes {n : Nat} {σ : zSt} {F P m : Nat} (hg : zGd (zro σ 51) F P) (hm : m < 2 ^ 31) : zSem (n + 5) mX6_takes [.ref 50, .int (nI m)] σ (fun v τ => v = some (.int (zGs (zro σ 51) P m)) ∧ zro τ 52 = zYs (zro σ 51) m ∧ (∀ f, f < F → τ 55 f = zGf (zro σ 51) P f m) ∧ (∀ p, p < P → τ 56 p = zGo (zro σ 51) p m) ∧ ∀ a, a ≠ 52 → a ≠ 55 → a ≠ 56 → τ a = σ a) := by
  refine zSem.of (by decide +kernel) (Nat.le_of_ble_eq_true rfl) (fun X hB hR => ?_)
  show zW X 0 [some (.ref 50), some (.int (nI m))] [] σ
  refine zw_aload0 hB dX6_takes_0 ?_
  refine zw_getfR hB dX6_takes_1 zf_X6_9 rfl rfl ?_
  refine zw_aload0 hB dX6_takes_4 ?_
  refine zw_getfR hB dX6_takes_5 zf_X6_13 rfl rfl ?_
  refine zw_callS2 (M' := mX6_copies) hB dX6_takes_8 zl_X6_130 zg_X6_copies (s_X6_copies (c := 51) (d := 52) rfl rfl (by decide)) (fun v8 σ8 hq8 => ?_)
  obtain ⟨rfl, x1, x2⟩ := hq8
  have g5 : zGd (zro σ8 52) F P := by rw [x1]; exact hg
  refine zw_aload0 hB dX6_takes_11 ?_
  refine zw_aload0 hB dX6_takes_12 ?_
  refine zw_getfR hB dX6_takes_13 zf_X6_13 rfl rfl ?_
  refine zw_iload1 hB dX6_takes_16 ?_
  refine zw_callV2 (M' := mX6_yearsOn) hB dX6_takes_17 zl_X6_124 zg_X6_yearsOn (zRc.of rfl rfl rfl) (s_X6_yearsOn (c := 52) rfl (by omega) g5 hm) (fun v17 σ17 hq17 => ?_)
  obtain ⟨rfl, y1, y2, y3, y4⟩ := hq17
  rw [x1]
  refine zw_iret hB hR dX6_takes_20 rfl ?_
  exact ⟨rfl, by rw [y1, x1], by rw [x1] at y2; exact y2, by rw [x1] at y3; exact y3, fun a h1 h2 h3 => (y4 a h1 h2 h3).trans (x2 a h1)⟩
theorem s_X6_farm {n : Nat} {σ : zSt} {S : zS} (hS : zOk S) (h : zRW S σ) (f w : Int32) : zSem (n + 2) mX6_farm [.ref 50, .int f, .int w] σ (zRQ (q_farm S f w) σ) := by
  obtain ⟨⟨⟨F, P, hg0⟩, y0, hy0, ey0⟩, hkp, hlt, hrw⟩ := id hS
  have hnF := hg0.nF
  have hnP := hg0.nP
  have hr0 := h.1
  have hg : zGd (zro σ 51) F P := by rw [hr0]; exact hg0
  have hF6 := hg.F6
  have hP6 := hg.P6
  have hF : σ 51 0 = nI F := (zro_k (by omega)).symm.trans hg.r0
  have hP : σ 51 1 = nI P := (zro_k (by omega)).symm.trans hg.r1
  unfold q_farm
  try rw [hnF]
  try rw [hnP]
  refine zSem.of (by decide +kernel) (Nat.le_of_ble_eq_true rfl) (fun X hB hR => ?_)
  show zW X 0 [some (.ref 50), some (.int f), some (.int w)] [] σ
  refine zw_aload0 hB dX6_farm_0 ?_
  refine zw_iload1 hB dX6_farm_1 ?_
  refine zw_callV1P (M' := mX6_isFarm) hB dX6_farm_2 zl_X6_117 zg_X6_isFarm (zRc.of rfl rfl rfl) (s_X6_isFarm hF hF6 _) ?_
  refine zw_if_neB (tgt := 14) hB dX6_farm_5 (by decide) (fun c5 => ?_) (fun c5 => ?_)
  · obtain ⟨j, hj, rfl⟩ := zIn_j (by omega) c5
    refine zw_iload2 hB dX6_farm_14 ?_
    refine zw_iconst (x := nI 0) hB dX6_farm_15 (by decide) ?_
    refine zw_iconst (x := nI 2) hB dX6_farm_16 (by decide) ?_
    refine zw_callS3P (M' := mX6_isIn) hB dX6_farm_17 zl_X6_52 zg_X6_isIn (s_X6_isIn _ _ _) ?_
    refine zw_if_eqB (tgt := 34) hB dX6_farm_20 (by decide) (fun c20 => ?_) (fun c20 => ?_)
    · refine zw_iload2 hB dX6_farm_34 ?_
      refine zw_iconst (x := nI 3) hB dX6_farm_35 (by decide) ?_
      refine zw_icmp_ne (tgt := 50) hB dX6_farm_36 (by decide) (fun c36 => ?_) (fun c36 => ?_)
      · refine zw_iload2 hB dX6_farm_50 ?_
        refine zw_iconst (x := nI 4) hB dX6_farm_51 (by decide) ?_
        refine zw_icmp_ne (tgt := 66) hB dX6_farm_52 (by decide) (fun c52 => ?_) (fun c52 => ?_)
        · refine zw_aload0 hB dX6_farm_66 ?_
          refine zw_bipush (x := -2) hB dX6_farm_67 (by decide) ?_
          refine zw_callV1 (M' := mX6_no) hB dX6_farm_69 zl_X6_48 zg_X6_no (zRc.of rfl rfl rfl) (s_X6_no (k := 2) _ (by decide) (by omega)) (fun v69 σ69 hq69 => ?_)
          obtain ⟨rfl, rfl⟩ := hq69
          refine zw_iret hB hR dX6_farm_72 rfl ?_
          rw [show w_farm F (nI j) w = -2 by
            refine (zfo_2 (zIn_of hj (by omega))).trans (zou_f (by omega) (fun z => ?_))
            obtain ⟨i, hi, rfl⟩ := zIn_j (by omega) ((zis (by omega)).mp z)
            have h5 : i = 0 ∨ i = 1 ∨ i = 2 ∨ i = 3 ∨ i = 4 := by omega
            rcases h5 with rfl | rfl | rfl | rfl | rfl
            · exact c20 (by decide)
            · exact c20 (by decide)
            · exact c20 (by decide)
            · exact c36 rfl
            · exact c52 rfl]
          exact zRQ.no h (by decide) (by omega) (by decide)
        · refine zw_aload0 hB dX6_farm_55 ?_
          refine zw_getfR hB dX6_farm_56 zf_X6_9 rfl rfl ?_
          refine zw_iload1 hB dX6_farm_59 ?_
          refine zw_callS2P (M' := mX6_farmerAt) hB dX6_farm_60 zl_X6_80 zg_X6_farmerAt (s_X6_farmerAt rfl hP hP6 _) ?_
          refine zw_goto (tgt := 72) hB dX6_farm_63 (by decide) ?_
          refine zw_iret hB hR dX6_farm_72 rfl ?_
          subst c52
          refine zRQ.ok h ((zfo_2 (zIn_of hj (by omega))).trans (zou_in (by omega) (by omega))) ?_ ⟨rfl, rfl, rfl⟩ (fun _ _ => rfl)
          unfold a_farm
          rw [if_neg c36, if_pos rfl, ← hr0]
      · refine zw_aload0 hB dX6_farm_39 ?_
        refine zw_getfR hB dX6_farm_40 zf_X6_9 rfl rfl ?_
        refine zw_iload1 hB dX6_farm_43 ?_
        refine zw_callS2P (M' := mX6_green) hB dX6_farm_44 zl_X6_88 zg_X6_green (s_X6_green rfl (by omega)) ?_
        refine zw_goto (tgt := 72) hB dX6_farm_47 (by decide) ?_
        refine zw_iret hB hR dX6_farm_72 rfl ?_
        subst c36
        refine zRQ.ok h ((zfo_2 (zIn_of hj (by omega))).trans (zou_in (by omega) (by omega))) ?_ ⟨rfl, rfl, rfl⟩ (fun _ _ => rfl)
        unfold a_farm
        rw [if_pos rfl, nI_clamp (by omega), ← hr0]
    · obtain ⟨i, hi, rfl⟩ := zIn_j (n := 3) (by omega) ((zis (by omega)).mp c20)
      refine zw_aload0 hB dX6_farm_23 ?_
      refine zw_getfR hB dX6_farm_24 zf_X6_9 rfl rfl ?_
      refine zw_iload1 hB dX6_farm_27 ?_
      refine zw_iload2 hB dX6_farm_28 ?_
      refine zw_callS2P (M' := mX6_heart) hB dX6_farm_29 zl_X6_60 zg_X6_heart (s_X6_heart) ?_
      refine zw_ialdN hB dX6_farm_32 rfl (by omega) (by decide) ?_
      refine zw_iret hB hR dX6_farm_33 rfl ?_
      refine zRQ.ok h ((zfo_2 (zIn_of hj (by omega))).trans (zou_in (by omega) (by omega))) ?_ ⟨rfl, rfl, rfl⟩ (fun _ _ => rfl)
      unfold a_farm
      rw [if_neg (fun z => absurd ((nI_eq (by omega) (by omega)).mp z) (by omega)), if_neg (fun z => absurd ((nI_eq (by omega) (by omega)).mp z) (by omega)), nI_clamp (by omega), nI_clamp (by omega), ← hr0, zro_k (by omega)]
  · refine zw_aload0 hB dX6_farm_8 ?_
    refine zw_iconst (x := -1) hB dX6_farm_9 (by decide) ?_
    refine zw_callV1 (M' := mX6_no) hB dX6_farm_10 zl_X6_48 zg_X6_no (zRc.of rfl rfl rfl) (s_X6_no (k := 1) _ (by decide) (by omega)) (fun v10 σ10 hq10 => ?_)
    obtain ⟨rfl, rfl⟩ := hq10
    refine zw_iret hB hR dX6_farm_13 rfl ?_
    rw [show w_farm F f w = -1 from zfo_1 c5]
    exact zRQ.no h (by decide) (by omega) (by decide)
theorem s_X6_farmer {n : Nat} {σ : zSt} {S : zS} (hS : zOk S) (h : zRW S σ) (p w : Int32) : zSem (n + 2) mX6_farmer [.ref 50, .int p, .int w] σ (zRQ (q_farmer S p w) σ) := by
  obtain ⟨⟨⟨F, P, hg0⟩, y0, hy0, ey0⟩, hkp, hlt, hrw⟩ := id hS
  have hnF := hg0.nF
  have hnP := hg0.nP
  have hr0 := h.1
  have hg : zGd (zro σ 51) F P := by rw [hr0]; exact hg0
  have hF6 := hg.F6
  have hP6 := hg.P6
  have hF : σ 51 0 = nI F := (zro_k (by omega)).symm.trans hg.r0
  have hP : σ 51 1 = nI P := (zro_k (by omega)).symm.trans hg.r1
  unfold q_farmer
  try rw [hnF]
  try rw [hnP]
  refine zSem.of (by decide +kernel) (Nat.le_of_ble_eq_true rfl) (fun X hB hR => ?_)
  show zW X 0 [some (.ref 50), some (.int p), some (.int w)] [] σ
  refine zw_aload0 hB dX6_farmer_0 ?_
  refine zw_iload1 hB dX6_farmer_1 ?_
  refine zw_callV1P (M' := mX6_isFarmer) hB dX6_farmer_2 zl_X6_113 zg_X6_isFarmer (zRc.of rfl rfl rfl) (s_X6_isFarmer hP hP6 _) ?_
  refine zw_if_neB (tgt := 14) hB dX6_farmer_5 (by decide) (fun c5 => ?_) (fun c5 => ?_)
  · obtain ⟨j, hj, rfl⟩ := zIn_j (by omega) c5
    refine zw_iload2 hB dX6_farmer_14 ?_
    refine zw_iconst (x := nI 0) hB dX6_farmer_15 (by decide) ?_
    refine zw_iconst (x := nI 3) hB dX6_farmer_16 (by decide) ?_
    refine zw_callS3P (M' := mX6_isIn) hB dX6_farmer_17 zl_X6_52 zg_X6_isIn (s_X6_isIn _ _ _) ?_
    refine zw_if_eqB (tgt := 34) hB dX6_farmer_20 (by decide) (fun c20 => ?_) (fun c20 => ?_)
    · refine zw_iload2 hB dX6_farmer_34 ?_
      refine zw_iconst (x := nI 4) hB dX6_farmer_35 (by decide) ?_
      refine zw_icmp_ne (tgt := 60) hB dX6_farmer_36 (by decide) (fun c36 => ?_) (fun c36 => ?_)
      · refine zw_iload2 hB dX6_farmer_60 ?_
        refine zw_iconst (x := nI 5) hB dX6_farmer_61 (by decide) ?_
        refine zw_icmp_ne (tgt := 81) hB dX6_farmer_62 (by decide) (fun c62 => ?_) (fun c62 => ?_)
        · refine zw_aload0 hB dX6_farmer_81 ?_
          refine zw_bipush (x := -2) hB dX6_farmer_82 (by decide) ?_
          refine zw_callV1 (M' := mX6_no) hB dX6_farmer_84 zl_X6_48 zg_X6_no (zRc.of rfl rfl rfl) (s_X6_no (k := 2) _ (by decide) (by omega)) (fun v84 σ84 hq84 => ?_)
          obtain ⟨rfl, rfl⟩ := hq84
          refine zw_iret hB hR dX6_farmer_87 rfl ?_
          rw [show w_farmer P (nI j) w = -2 by
            refine (zfo_2 (zIn_of hj (by omega))).trans (zou_f (by omega) (fun z => ?_))
            obtain ⟨i, hi, rfl⟩ := zIn_j (by omega) ((zis (by omega)).mp z)
            have h5 : i = 0 ∨ i = 1 ∨ i = 2 ∨ i = 3 ∨ i = 4 ∨ i = 5 := by omega
            rcases h5 with rfl | rfl | rfl | rfl | rfl | rfl
            · exact c20 (by decide)
            · exact c20 (by decide)
            · exact c20 (by decide)
            · exact c20 (by decide)
            · exact c36 rfl
            · exact c62 rfl]
          exact zRQ.no h (by decide) (by omega) (by decide)
        · refine zw_aload0 hB dX6_farmer_65 ?_
          refine zw_getfR hB dX6_farmer_66 zf_X6_9 rfl rfl ?_
          refine zw_iload1 hB dX6_farmer_69 ?_
          refine zw_iconst (x := nI 0) hB dX6_farmer_70 (by decide) ?_
          refine zw_callS2P (M' := mX6_of) hB dX6_farmer_71 zl_X6_56 zg_X6_of (s_X6_of) ?_
          refine zw_ialdV (x := nI (zkd (zro σ 51) j)) hB dX6_farmer_74 rfl (by omega) (by decide) ((zro_kd (by omega)).trans (hg.kd hj).1) ?_
          refine zw_callS1P (M' := mX6_tiresBy) hB dX6_farmer_75 zl_X6_77 zg_X6_tiresBy (s_X6_tiresBy (hg.kd hj).2) ?_
          refine zw_goto (tgt := 87) hB dX6_farmer_78 (by decide) ?_
          refine zw_iret hB hR dX6_farmer_87 rfl ?_
          subst c62
          refine zRQ.ok h ((zfo_2 (zIn_of hj (by omega))).trans (zou_in (by omega) (by omega))) ?_ ⟨rfl, rfl, rfl⟩ (fun _ _ => rfl)
          unfold a_farmer
          rw [if_neg (by decide), if_neg (by decide), if_neg (by decide), if_neg (by decide), if_neg (by decide), nI_clamp (by omega), ← hr0]
      · refine zw_aload0 hB dX6_farmer_39 ?_
        refine zw_getfR hB dX6_farmer_40 zf_X6_9 rfl rfl ?_
        refine zw_iload1 hB dX6_farmer_43 ?_
        refine zw_aload0 hB dX6_farmer_44 ?_
        refine zw_getfR hB dX6_farmer_45 zf_X6_9 rfl rfl ?_
        refine zw_iload1 hB dX6_farmer_48 ?_
        refine zw_iconst (x := nI 3) hB dX6_farmer_49 (by decide) ?_
        refine zw_callS2P (M' := mX6_of) hB dX6_farmer_50 zl_X6_56 zg_X6_of (s_X6_of) ?_
        refine zw_ialdV (x := zat (zro σ 51) j) hB dX6_farmer_53 rfl (by omega) (by decide) (zro_at (by omega)) ?_
        refine zw_callS3P (M' := mX6_growsBy) hB dX6_farmer_54 zl_X6_70 zg_X6_growsBy (s_X6_growsBy rfl (by omega) (hg.kd hj) _ (by rcases hg.seat hj with ⟨_, e⟩ | ⟨e, e2, _⟩; exact Or.inl e; exact Or.inr ⟨_, by omega, e⟩)) ?_
        refine zw_goto (tgt := 87) hB dX6_farmer_57 (by decide) ?_
        refine zw_iret hB hR dX6_farmer_87 rfl ?_
        subst c36
        refine zRQ.ok h ((zfo_2 (zIn_of hj (by omega))).trans (zou_in (by omega) (by omega))) ?_ ⟨rfl, rfl, rfl⟩ (fun _ _ => rfl)
        unfold a_farmer
        rw [if_neg (by decide), if_neg (by decide), if_neg (by decide), if_neg (by decide), if_pos rfl, nI_clamp (by omega), ← hr0]
    · obtain ⟨i, hi, rfl⟩ := zIn_j (n := 4) (by omega) ((zis (by omega)).mp c20)
      refine zw_aload0 hB dX6_farmer_23 ?_
      refine zw_getfR hB dX6_farmer_24 zf_X6_9 rfl rfl ?_
      refine zw_iload1 hB dX6_farmer_27 ?_
      refine zw_iload2 hB dX6_farmer_28 ?_
      refine zw_callS2P (M' := mX6_of) hB dX6_farmer_29 zl_X6_56 zg_X6_of (s_X6_of) ?_
      refine zw_ialdN hB dX6_farmer_32 rfl (by omega) (by decide) ?_
      refine zw_iret hB hR dX6_farmer_33 rfl ?_
      refine zRQ.ok h ((zfo_2 (zIn_of hj (by omega))).trans (zou_in (by omega) (by omega))) ?_ ⟨rfl, rfl, rfl⟩ (fun _ _ => rfl)
      unfold a_farmer
      rw [nI_clamp (by omega)]
      have h4 : i = 0 ∨ i = 1 ∨ i = 2 ∨ i = 3 := by omega
      rcases h4 with rfl | rfl | rfl | rfl
      · rw [if_pos rfl, ← hr0]; exact congrArg (fun z => Value.int z) (zro_kd (by omega))
      · rw [if_neg (by decide), if_pos rfl, ← hr0]; exact congrArg (fun z => Value.int z) (zro_fg (by omega))
      · rw [if_neg (by decide), if_neg (by decide), if_pos rfl, ← hr0]; exact congrArg (fun z => Value.int z) (zro_td (by omega))
      · rw [if_neg (by decide), if_neg (by decide), if_neg (by decide), if_pos rfl, ← hr0]; exact congrArg (fun z => Value.int z) (zro_at (by omega))
  · refine zw_aload0 hB dX6_farmer_8 ?_
    refine zw_iconst (x := -1) hB dX6_farmer_9 (by decide) ?_
    refine zw_callV1 (M' := mX6_no) hB dX6_farmer_10 zl_X6_48 zg_X6_no (zRc.of rfl rfl rfl) (s_X6_no (k := 1) _ (by decide) (by omega)) (fun v10 σ10 hq10 => ?_)
    obtain ⟨rfl, rfl⟩ := hq10
    refine zw_iret hB hR dX6_farmer_13 rfl ?_
    rw [show w_farmer P p w = -1 from zfo_1 c5]
    exact zRQ.no h (by decide) (by omega) (by decide)
theorem s_X6_sits {n : Nat} {σ : zSt} {S : zS} (hS : zOk S) (h : zRW S σ) (p f : Int32) : zSem (n + 3) mX6_sits [.ref 50, .int p, .int f] σ (zRQ (q_sits S p f) σ) := by
  obtain ⟨⟨⟨F, P, hg0⟩, y0, hy0, ey0⟩, hkp, hlt, hrw⟩ := id hS
  have hnF := hg0.nF
  have hnP := hg0.nP
  have hr0 := h.1
  have hg : zGd (zro σ 51) F P := by rw [hr0]; exact hg0
  have hF6 := hg.F6
  have hP6 := hg.P6
  have hF : σ 51 0 = nI F := (zro_k (by omega)).symm.trans hg.r0
  have hP : σ 51 1 = nI P := (zro_k (by omega)).symm.trans hg.r1
  unfold q_sits
  try rw [hnF]
  try rw [hnP]
  refine zSem.of (by decide +kernel) (Nat.le_of_ble_eq_true rfl) (fun X hB hR => ?_)
  show zW X 0 [some (.ref 50), some (.int p), some (.int f), none] [] σ
  refine zw_aload0 hB dX6_sits_0 ?_
  refine zw_iload1 hB dX6_sits_1 ?_
  refine zw_callV1P (M' := mX6_isFarmer) hB dX6_sits_2 zl_X6_113 zg_X6_isFarmer (zRc.of rfl rfl rfl) (s_X6_isFarmer hP hP6 _) ?_
  refine zw_if_eqB (tgt := 16) hB dX6_sits_5 (by decide) (fun c5 => ?_) (fun c5 => ?_)
  · refine zw_aload0 hB dX6_sits_16 ?_
    refine zw_iconst (x := -1) hB dX6_sits_17 (by decide) ?_
    refine zw_callV1 (M' := mX6_no) hB dX6_sits_18 zl_X6_48 zg_X6_no (zRc.of rfl rfl rfl) (s_X6_no (k := 1) _ (by decide) (by omega)) (fun v18 σ18 hq18 => ?_)
    obtain ⟨rfl, rfl⟩ := hq18
    refine zw_iret hB hR dX6_sits_21 rfl ?_
    rw [show znb (zIn p P ∧ zIn f F) = -1 from if_neg (fun z => c5 z.1)]
    exact zRQ.no h (by decide) (by omega) (by decide)
  · refine zw_aload0 hB dX6_sits_8 ?_
    refine zw_iload2 hB dX6_sits_9 ?_
    refine zw_callV1P (M' := mX6_isFarm) hB dX6_sits_10 zl_X6_117 zg_X6_isFarm (zRc.of rfl rfl rfl) (s_X6_isFarm hF hF6 _) ?_
    refine zw_if_neB (tgt := 22) hB dX6_sits_13 (by decide) (fun c13 => ?_) (fun c13 => ?_)
    · obtain ⟨j, hj, rfl⟩ := zIn_j (by omega) c5
      obtain ⟨i, hi, rfl⟩ := zIn_j (by omega) c13
      refine zw_aload0 hB dX6_sits_22 ?_
      refine zw_getfR hB dX6_sits_23 zf_X6_9 rfl rfl ?_
      refine zw_iload2 hB dX6_sits_26 ?_
      refine zw_callS2P (M' := mX6_farmerAt) hB dX6_sits_27 zl_X6_80 zg_X6_farmerAt (s_X6_farmerAt rfl hP hP6 _) ?_
      refine zw_istore3 hB dX6_sits_30 (by first | rfl | assumption) ?_
      refine zw_aload0 hB dX6_sits_31 ?_
      refine zw_getfR hB dX6_sits_32 zf_X6_9 rfl rfl ?_
      refine zw_iload1 hB dX6_sits_35 ?_
      refine zw_iload2 hB dX6_sits_36 ?_
      refine zw_callS3 (M' := mX6_sitsIn) hB dX6_sits_37 zl_X6_120 zg_X6_sitsIn (s_X6_sitsIn rfl hg hj hi) (fun v37 σ37 hq37 => ?_)
      obtain ⟨rfl, x1, x2⟩ := hq37
      refine zw_iload3 hB dX6_sits_40 ?_
      refine zw_iret hB hR dX6_sits_41 rfl ?_
      rw [zq_t (show znb (zIn (nI j) P ∧ zIn (nI i) F) = 0 from if_pos ⟨c5, c13⟩)]
      refine ⟨by rw [hr0], h.land ?_ (by rw [x2 50 (by omega)]; exact ⟨rfl, rfl, rfl⟩) (fun c hc => x2 c (by omega)), fun c hc => x2 c (by omega)⟩
      rw [x1, hr0, nI_clamp (by omega), nI_clamp (by omega)]
    · refine zw_aload0 hB dX6_sits_16 ?_
      refine zw_iconst (x := -1) hB dX6_sits_17 (by decide) ?_
      refine zw_callV1 (M' := mX6_no) hB dX6_sits_18 zl_X6_48 zg_X6_no (zRc.of rfl rfl rfl) (s_X6_no (k := 1) _ (by decide) (by omega)) (fun v18 σ18 hq18 => ?_)
      obtain ⟨rfl, rfl⟩ := hq18
      refine zw_iret hB hR dX6_sits_21 rfl ?_
      rw [show znb (zIn p P ∧ zIn f F) = -1 from if_neg (fun z => c13 z.2)]
      exact zRQ.no h (by decide) (by omega) (by decide)
theorem s_X6_leaves {n : Nat} {σ : zSt} {S : zS} (hS : zOk S) (h : zRW S σ) (p : Int32) : zSem (n + 2) mX6_leaves [.ref 50, .int p] σ (zRQ (q_leaves S p) σ) := by
  obtain ⟨⟨⟨F, P, hg0⟩, y0, hy0, ey0⟩, hkp, hlt, hrw⟩ := id hS
  have hnF := hg0.nF
  have hnP := hg0.nP
  have hr0 := h.1
  have hg : zGd (zro σ 51) F P := by rw [hr0]; exact hg0
  have hF6 := hg.F6
  have hP6 := hg.P6
  have hF : σ 51 0 = nI F := (zro_k (by omega)).symm.trans hg.r0
  have hP : σ 51 1 = nI P := (zro_k (by omega)).symm.trans hg.r1
  unfold q_leaves
  try rw [hnF]
  try rw [hnP]
  refine zSem.of (by decide +kernel) (Nat.le_of_ble_eq_true rfl) (fun X hB hR => ?_)
  show zW X 0 [some (.ref 50), some (.int p), none] [] σ
  refine zw_aload0 hB dX6_leaves_0 ?_
  refine zw_iload1 hB dX6_leaves_1 ?_
  refine zw_callV1P (M' := mX6_isFarmer) hB dX6_leaves_2 zl_X6_113 zg_X6_isFarmer (zRc.of rfl rfl rfl) (s_X6_isFarmer hP hP6 _) ?_
  refine zw_if_neB (tgt := 14) hB dX6_leaves_5 (by decide) (fun c5 => ?_) (fun c5 => ?_)
  · obtain ⟨j, hj, rfl⟩ := zIn_j (by omega) c5
    refine zw_aload0 hB dX6_leaves_14 ?_
    refine zw_getfR hB dX6_leaves_15 zf_X6_9 rfl rfl ?_
    refine zw_iload1 hB dX6_leaves_18 ?_
    refine zw_iconst (x := nI 3) hB dX6_leaves_19 (by decide) ?_
    refine zw_callS2P (M' := mX6_of) hB dX6_leaves_20 zl_X6_56 zg_X6_of (s_X6_of) ?_
    refine zw_ialdV (x := zat (zro σ 51) j) hB dX6_leaves_23 rfl (by omega) (by decide) (zro_at (by omega)) ?_
    refine zw_istore2 hB dX6_leaves_24 (by first | rfl | assumption) ?_
    refine zw_iload2 hB dX6_leaves_25 ?_
    refine zw_if_ge (tgt := 36) hB dX6_leaves_26 (by decide) (fun c26 => ?_) (fun c26 => ?_)
    · refine zw_aload0 hB dX6_leaves_36 ?_
      refine zw_getfR hB dX6_leaves_37 zf_X6_9 rfl rfl ?_
      refine zw_iload1 hB dX6_leaves_40 ?_
      refine zw_iconst (x := nI 3) hB dX6_leaves_41 (by decide) ?_
      refine zw_callS2P (M' := mX6_of) hB dX6_leaves_42 zl_X6_56 zg_X6_of (s_X6_of) ?_
      refine zw_bipush (x := -9) hB dX6_leaves_45 (by decide) ?_
      refine zw_iastN hB dX6_leaves_47 rfl (by omega) (by decide) ?_
      refine zw_iload2 hB dX6_leaves_48 ?_
      refine zw_iret hB hR dX6_leaves_49 rfl ?_
      rw [show w_leaves S.1 P (nI j) = nI 0 by unfold w_leaves; rw [if_pos (zIn_of hj (by omega)), nI_clamp (by omega), ← hr0, if_neg (fun z => absurd c26 (by rw [z]; decide))], zq_t (e := nI 0) rfl]
      refine ⟨by rw [nI_clamp (by omega), hr0], h.land ?_ ⟨rfl, rfl, rfl⟩ (fun c hc => zC_n (by omega)), fun c hc => zC_n (by omega)⟩
      rw [zro_set (by omega), hr0, nI_clamp (by omega), show 23 + 4 * j + 3 = 26 + 4 * j by omega]
    · refine zw_aload0 hB dX6_leaves_29 ?_
      refine zw_bipush (x := -3) hB dX6_leaves_30 (by decide) ?_
      refine zw_callV1 (M' := mX6_no) hB dX6_leaves_32 zl_X6_48 zg_X6_no (zRc.of rfl rfl rfl) (s_X6_no (k := 3) _ (by decide) (by omega)) (fun v32 σ32 hq32 => ?_)
      obtain ⟨rfl, rfl⟩ := hq32
      refine zw_iret hB hR dX6_leaves_35 rfl ?_
      rw [show w_leaves S.1 P (nI j) = -3 by unfold w_leaves; rw [if_pos (zIn_of hj (by omega)), nI_clamp (by omega), ← hr0, if_pos (by rcases hg.seat hj with ⟨e, _⟩ | ⟨_, _, e⟩; exact e; exact absurd (Int32.not_lt.mp e) c26)]]
      exact zRQ.no h (by decide) (by omega) (by decide)
  · refine zw_aload0 hB dX6_leaves_8 ?_
    refine zw_iconst (x := -1) hB dX6_leaves_9 (by decide) ?_
    refine zw_callV1 (M' := mX6_no) hB dX6_leaves_10 zl_X6_48 zg_X6_no (zRc.of rfl rfl rfl) (s_X6_no (k := 1) _ (by decide) (by omega)) (fun v10 σ10 hq10 => ?_)
    obtain ⟨rfl, rfl⟩ := hq10
    refine zw_iret hB hR dX6_leaves_13 rfl ?_
    rw [show w_leaves S.1 P p = -1 from if_neg c5]
    exact zRQ.no h (by decide) (by omega) (by decide)
theorem s_X6_hearts {n : Nat} {σ : zSt} {S : zS} (hS : zOk S) (h : zRW S σ) (f s v : Int32) : zSem (n + 2) mX6_hearts [.ref 50, .int f, .int s, .int v] σ (zRQ (q_hearts S f s v) σ) := by
  obtain ⟨⟨⟨F, P, hg0⟩, y0, hy0, ey0⟩, hkp, hlt, hrw⟩ := id hS
  have hnF := hg0.nF
  have hnP := hg0.nP
  have hr0 := h.1
  have hg : zGd (zro σ 51) F P := by rw [hr0]; exact hg0
  have hF6 := hg.F6
  have hP6 := hg.P6
  have hF : σ 51 0 = nI F := (zro_k (by omega)).symm.trans hg.r0
  have hP : σ 51 1 = nI P := (zro_k (by omega)).symm.trans hg.r1
  unfold q_hearts
  try rw [hnF]
  try rw [hnP]
  unfold w_hearts
  refine zSem.of (by decide +kernel) (Nat.le_of_ble_eq_true rfl) (fun X hB hR => ?_)
  show zW X 0 [some (.ref 50), some (.int f), some (.int s), some (.int v), none, none] [] σ
  refine zw_aload0 hB dX6_hearts_0 ?_
  refine zw_iload1 hB dX6_hearts_1 ?_
  refine zw_callV1P (M' := mX6_isFarm) hB dX6_hearts_2 zl_X6_117 zg_X6_isFarm (zRc.of rfl rfl rfl) (s_X6_isFarm hF hF6 _) ?_
  refine zw_if_eqB (tgt := 27) hB dX6_hearts_5 (by decide) (fun c5 => ?_) (fun c5 => ?_)
  · refine zw_iconst (x := -1) hB dX6_hearts_27 (by decide) ?_
    refine zw_eqI (y := zfo (znb (zIn f F ∧ zIn s 3)) (zir v (nI 0) (nI 30)) (nI 0)) (zfo_1 (fun z => c5 z.1)).symm ?_
    refine zw_istore4 hB dX6_hearts_28 (by first | rfl | assumption) ?_
    refine zw_iload4 hB dX6_hearts_30 ?_
    refine zw_if_eq (tgt := 42) hB dX6_hearts_32 (by decide) (fun c32 => ?_) (fun c32 => ?_)
    · obtain ⟨e1, e2, -⟩ := zfo_0 c32
      obtain ⟨z1, z2⟩ := znb_0 e1
      obtain ⟨j, hj, rfl⟩ := zIn_j (by omega) z1
      obtain ⟨i, hi, rfl⟩ := zIn_j (by omega) z2
      obtain ⟨x, -, hx, rfl⟩ := zir_0 (by omega) (by omega) e2
      refine zw_aload0 hB dX6_hearts_42 ?_
      refine zw_getfR hB dX6_hearts_43 zf_X6_9 rfl rfl ?_
      refine zw_iload1 hB dX6_hearts_46 ?_
      refine zw_iload2 hB dX6_hearts_47 ?_
      refine zw_callS2P (M' := mX6_heart) hB dX6_hearts_48 zl_X6_60 zg_X6_heart (s_X6_heart) ?_
      refine zw_ialdN hB dX6_hearts_51 rfl (by omega) (by decide) ?_
      refine zw_istore5 hB dX6_hearts_52 (by first | rfl | assumption) ?_
      refine zw_aload0 hB dX6_hearts_54 ?_
      refine zw_getfR hB dX6_hearts_55 zf_X6_9 rfl rfl ?_
      refine zw_iload1 hB dX6_hearts_58 ?_
      refine zw_iload2 hB dX6_hearts_59 ?_
      refine zw_callS2P (M' := mX6_heart) hB dX6_hearts_60 zl_X6_60 zg_X6_heart (s_X6_heart) ?_
      refine zw_iload3 hB dX6_hearts_63 ?_
      refine zw_iastN hB dX6_hearts_64 rfl (by omega) (by decide) ?_
      refine zw_iload5 hB dX6_hearts_65 ?_
      refine zw_iret hB hR dX6_hearts_67 rfl ?_
      rw [zq_t c32]
      refine ⟨by rw [nI_clamp (by omega), nI_clamp (by omega), ← hr0, zro_k (by omega)], h.land ?_ ⟨rfl, rfl, rfl⟩ (fun c hc => zC_n (by omega)), fun c hc => zC_n (by omega)⟩
      rw [zro_set (by omega), hr0, nI_clamp (by omega), nI_clamp (by omega)]
    · obtain ⟨k, hk, hc⟩ := (zcd_fo zcd_nb zcd_ir zcd_0).resolve_left c32
      refine zw_aload0 hB dX6_hearts_35 ?_
      refine zw_iload4 hB dX6_hearts_36 ?_
      refine zw_callV1 (M' := mX6_no) hB dX6_hearts_38 zl_X6_48 zg_X6_no (zRc.of rfl rfl rfl) (s_X6_no _ hc hk) (fun v38 σ38 hq38 => ?_)
      obtain ⟨rfl, rfl⟩ := hq38
      refine zw_iret hB hR dX6_hearts_41 rfl ?_
      exact zRQ.no h c32 hk hc
  · refine zw_iload2 hB dX6_hearts_8 ?_
    refine zw_iconst (x := nI 0) hB dX6_hearts_9 (by decide) ?_
    refine zw_iconst (x := nI 2) hB dX6_hearts_10 (by decide) ?_
    refine zw_callS3P (M' := mX6_isIn) hB dX6_hearts_11 zl_X6_52 zg_X6_isIn (s_X6_isIn _ _ _) ?_
    refine zw_if_eqB (tgt := 27) hB dX6_hearts_14 (by decide) (fun c14 => ?_) (fun c14 => ?_)
    · refine zw_iconst (x := -1) hB dX6_hearts_27 (by decide) ?_
      refine zw_eqI (y := zfo (znb (zIn f F ∧ zIn s 3)) (zir v (nI 0) (nI 30)) (nI 0)) (zfo_1 (fun z => c14 ((zis (by omega)).mpr z.2))).symm ?_
      refine zw_istore4 hB dX6_hearts_28 (by first | rfl | assumption) ?_
      refine zw_iload4 hB dX6_hearts_30 ?_
      refine zw_if_eq (tgt := 42) hB dX6_hearts_32 (by decide) (fun c32 => ?_) (fun c32 => ?_)
      · obtain ⟨e1, e2, -⟩ := zfo_0 c32
        obtain ⟨z1, z2⟩ := znb_0 e1
        obtain ⟨j, hj, rfl⟩ := zIn_j (by omega) z1
        obtain ⟨i, hi, rfl⟩ := zIn_j (by omega) z2
        obtain ⟨x, -, hx, rfl⟩ := zir_0 (by omega) (by omega) e2
        refine zw_aload0 hB dX6_hearts_42 ?_
        refine zw_getfR hB dX6_hearts_43 zf_X6_9 rfl rfl ?_
        refine zw_iload1 hB dX6_hearts_46 ?_
        refine zw_iload2 hB dX6_hearts_47 ?_
        refine zw_callS2P (M' := mX6_heart) hB dX6_hearts_48 zl_X6_60 zg_X6_heart (s_X6_heart) ?_
        refine zw_ialdN hB dX6_hearts_51 rfl (by omega) (by decide) ?_
        refine zw_istore5 hB dX6_hearts_52 (by first | rfl | assumption) ?_
        refine zw_aload0 hB dX6_hearts_54 ?_
        refine zw_getfR hB dX6_hearts_55 zf_X6_9 rfl rfl ?_
        refine zw_iload1 hB dX6_hearts_58 ?_
        refine zw_iload2 hB dX6_hearts_59 ?_
        refine zw_callS2P (M' := mX6_heart) hB dX6_hearts_60 zl_X6_60 zg_X6_heart (s_X6_heart) ?_
        refine zw_iload3 hB dX6_hearts_63 ?_
        refine zw_iastN hB dX6_hearts_64 rfl (by omega) (by decide) ?_
        refine zw_iload5 hB dX6_hearts_65 ?_
        refine zw_iret hB hR dX6_hearts_67 rfl ?_
        rw [zq_t c32]
        refine ⟨by rw [nI_clamp (by omega), nI_clamp (by omega), ← hr0, zro_k (by omega)], h.land ?_ ⟨rfl, rfl, rfl⟩ (fun c hc => zC_n (by omega)), fun c hc => zC_n (by omega)⟩
        rw [zro_set (by omega), hr0, nI_clamp (by omega), nI_clamp (by omega)]
      · obtain ⟨k, hk, hc⟩ := (zcd_fo zcd_nb zcd_ir zcd_0).resolve_left c32
        refine zw_aload0 hB dX6_hearts_35 ?_
        refine zw_iload4 hB dX6_hearts_36 ?_
        refine zw_callV1 (M' := mX6_no) hB dX6_hearts_38 zl_X6_48 zg_X6_no (zRc.of rfl rfl rfl) (s_X6_no _ hc hk) (fun v38 σ38 hq38 => ?_)
        obtain ⟨rfl, rfl⟩ := hq38
        refine zw_iret hB hR dX6_hearts_41 rfl ?_
        exact zRQ.no h c32 hk hc
    · refine zw_iload3 hB dX6_hearts_17 ?_
      refine zw_iconst (x := nI 0) hB dX6_hearts_18 (by decide) ?_
      refine zw_bipush (x := nI 30) hB dX6_hearts_19 (by decide) ?_
      refine zw_callS3P (M' := mX6_wrongBy) hB dX6_hearts_21 zl_X6_137 zg_X6_wrongBy (s_X6_wrongBy _ _ _) ?_
      refine zw_goto (tgt := 28) hB dX6_hearts_24 (by decide) ?_
      refine zw_eqI (y := zfo (znb (zIn f F ∧ zIn s 3)) (zir v (nI 0) (nI 30)) (nI 0)) (zfo_2 ⟨c5, (zis (N := 2) (by omega)).mp c14⟩).symm ?_
      refine zw_istore4 hB dX6_hearts_28 (by first | rfl | assumption) ?_
      refine zw_iload4 hB dX6_hearts_30 ?_
      refine zw_if_eq (tgt := 42) hB dX6_hearts_32 (by decide) (fun c32 => ?_) (fun c32 => ?_)
      · obtain ⟨e1, e2, -⟩ := zfo_0 c32
        obtain ⟨z1, z2⟩ := znb_0 e1
        obtain ⟨j, hj, rfl⟩ := zIn_j (by omega) z1
        obtain ⟨i, hi, rfl⟩ := zIn_j (by omega) z2
        obtain ⟨x, -, hx, rfl⟩ := zir_0 (by omega) (by omega) e2
        refine zw_aload0 hB dX6_hearts_42 ?_
        refine zw_getfR hB dX6_hearts_43 zf_X6_9 rfl rfl ?_
        refine zw_iload1 hB dX6_hearts_46 ?_
        refine zw_iload2 hB dX6_hearts_47 ?_
        refine zw_callS2P (M' := mX6_heart) hB dX6_hearts_48 zl_X6_60 zg_X6_heart (s_X6_heart) ?_
        refine zw_ialdN hB dX6_hearts_51 rfl (by omega) (by decide) ?_
        refine zw_istore5 hB dX6_hearts_52 (by first | rfl | assumption) ?_
        refine zw_aload0 hB dX6_hearts_54 ?_
        refine zw_getfR hB dX6_hearts_55 zf_X6_9 rfl rfl ?_
        refine zw_iload1 hB dX6_hearts_58 ?_
        refine zw_iload2 hB dX6_hearts_59 ?_
        refine zw_callS2P (M' := mX6_heart) hB dX6_hearts_60 zl_X6_60 zg_X6_heart (s_X6_heart) ?_
        refine zw_iload3 hB dX6_hearts_63 ?_
        refine zw_iastN hB dX6_hearts_64 rfl (by omega) (by decide) ?_
        refine zw_iload5 hB dX6_hearts_65 ?_
        refine zw_iret hB hR dX6_hearts_67 rfl ?_
        rw [zq_t c32]
        refine ⟨by rw [nI_clamp (by omega), nI_clamp (by omega), ← hr0, zro_k (by omega)], h.land ?_ ⟨rfl, rfl, rfl⟩ (fun c hc => zC_n (by omega)), fun c hc => zC_n (by omega)⟩
        rw [zro_set (by omega), hr0, nI_clamp (by omega), nI_clamp (by omega)]
      · obtain ⟨k, hk, hc⟩ := (zcd_fo zcd_nb zcd_ir zcd_0).resolve_left c32
        refine zw_aload0 hB dX6_hearts_35 ?_
        refine zw_iload4 hB dX6_hearts_36 ?_
        refine zw_callV1 (M' := mX6_no) hB dX6_hearts_38 zl_X6_48 zg_X6_no (zRc.of rfl rfl rfl) (s_X6_no _ hc hk) (fun v38 σ38 hq38 => ?_)
        obtain ⟨rfl, rfl⟩ := hq38
        refine zw_iret hB hR dX6_hearts_41 rfl ?_
        exact zRQ.no h c32 hk hc
theorem s_X6_steps {n : Nat} {σ : zSt} {S : zS} (hS : zOk S) (h : zRW S σ) (v : Int32) : zSem (n + 1) mX6_steps [.ref 50, .int v] σ (zRQ (q_steps S v) σ) := by
  obtain ⟨⟨⟨F, P, hg0⟩, y0, hy0, ey0⟩, hkp, hlt, hrw⟩ := id hS
  have hnF := hg0.nF
  have hnP := hg0.nP
  have hr0 := h.1
  have hg : zGd (zro σ 51) F P := by rw [hr0]; exact hg0
  have hF6 := hg.F6
  have hP6 := hg.P6
  have hF : σ 51 0 = nI F := (zro_k (by omega)).symm.trans hg.r0
  have hP : σ 51 1 = nI P := (zro_k (by omega)).symm.trans hg.r1
  unfold q_steps
  try rw [hnF]
  try rw [hnP]
  refine zSem.of (by decide +kernel) (Nat.le_of_ble_eq_true rfl) (fun X hB hR => ?_)
  show zW X 0 [some (.ref 50), some (.int v), none, none] [] σ
  refine zw_iload1 hB dX6_steps_0 ?_
  refine zw_iconst (x := nI 0) hB dX6_steps_1 (by decide) ?_
  refine zw_iconst (x := nI 5) hB dX6_steps_2 (by decide) ?_
  refine zw_callS3P (M' := mX6_wrongBy) hB dX6_steps_3 zl_X6_137 zg_X6_wrongBy (s_X6_wrongBy _ _ _) ?_
  refine zw_istore2 hB dX6_steps_6 (by first | rfl | assumption) ?_
  refine zw_iload2 hB dX6_steps_7 ?_
  refine zw_if_eq (tgt := 17) hB dX6_steps_8 (by decide) (fun c8 => ?_) (fun c8 => ?_)
  · refine zw_aload0 hB dX6_steps_17 ?_
    refine zw_getfR hB dX6_steps_18 zf_X6_9 rfl rfl ?_
    refine zw_iconst (x := nI 2) hB dX6_steps_21 (by decide) ?_
    refine zw_ialdV (x := S.1 2) hB dX6_steps_22 rfl (by omega) (by decide) (by rw [← hr0, zro_k (by omega)]) ?_
    refine zw_istore3 hB dX6_steps_23 (by first | rfl | assumption) ?_
    refine zw_aload0 hB dX6_steps_24 ?_
    refine zw_getfR hB dX6_steps_25 zf_X6_9 rfl rfl ?_
    refine zw_iconst (x := nI 2) hB dX6_steps_28 (by decide) ?_
    refine zw_iload1 hB dX6_steps_29 ?_
    refine zw_iastN hB dX6_steps_30 rfl (by omega) (by decide) ?_
    refine zw_iload3 hB dX6_steps_31 ?_
    refine zw_iret hB hR dX6_steps_32 rfl ?_
    rw [zq_t c8]
    refine ⟨rfl, h.land ?_ ⟨rfl, rfl, rfl⟩ (fun c hc => zC_n (by omega)), fun c hc => zC_n (by omega)⟩
    rw [zro_set (by omega), hr0]
  · obtain ⟨k, hk, hc⟩ := (zcd_ir).resolve_left c8
    refine zw_aload0 hB dX6_steps_11 ?_
    refine zw_iload2 hB dX6_steps_12 ?_
    refine zw_callV1 (M' := mX6_no) hB dX6_steps_13 zl_X6_48 zg_X6_no (zRc.of rfl rfl rfl) (s_X6_no _ hc hk) (fun v13 σ13 hq13 => ?_)
    obtain ⟨rfl, rfl⟩ := hq13
    refine zw_iret hB hR dX6_steps_16 rfl ?_
    exact zRQ.no h c8 hk hc
theorem s_X6_tires {n : Nat} {σ : zSt} {S : zS} (hS : zOk S) (h : zRW S σ) (p v : Int32) : zSem (n + 2) mX6_tires [.ref 50, .int p, .int v] σ (zRQ (q_tires S p v) σ) := by
  obtain ⟨⟨⟨F, P, hg0⟩, y0, hy0, ey0⟩, hkp, hlt, hrw⟩ := id hS
  have hnF := hg0.nF
  have hnP := hg0.nP
  have hr0 := h.1
  have hg : zGd (zro σ 51) F P := by rw [hr0]; exact hg0
  have hF6 := hg.F6
  have hP6 := hg.P6
  have hF : σ 51 0 = nI F := (zro_k (by omega)).symm.trans hg.r0
  have hP : σ 51 1 = nI P := (zro_k (by omega)).symm.trans hg.r1
  unfold q_tires
  try rw [hnF]
  try rw [hnP]
  refine zSem.of (by decide +kernel) (Nat.le_of_ble_eq_true rfl) (fun X hB hR => ?_)
  show zW X 0 [some (.ref 50), some (.int p), some (.int v), none, none] [] σ
  refine zw_aload0 hB dX6_tires_0 ?_
  refine zw_iload1 hB dX6_tires_1 ?_
  refine zw_callV1P (M' := mX6_isFarmer) hB dX6_tires_2 zl_X6_113 zg_X6_isFarmer (zRc.of rfl rfl rfl) (s_X6_isFarmer hP hP6 _) ?_
  refine zw_if_eqB (tgt := 18) hB dX6_tires_5 (by decide) (fun c5 => ?_) (fun c5 => ?_)
  · refine zw_iconst (x := -1) hB dX6_tires_18 (by decide) ?_
    refine zw_eqI (y := zfo (znb (zIn p P)) (zir v (nI 0) (nI 20)) (nI 0)) (zfo_1 c5).symm ?_
    refine zw_istore3 hB dX6_tires_19 (by first | rfl | assumption) ?_
    refine zw_iload3 hB dX6_tires_20 ?_
    refine zw_if_eq (tgt := 30) hB dX6_tires_21 (by decide) (fun c21 => ?_) (fun c21 => ?_)
    · obtain ⟨e1, e2, -⟩ := zfo_0 c21
      obtain ⟨j, hj, rfl⟩ := zIn_j (by omega) (znb_0 e1)
      refine zw_aload0 hB dX6_tires_30 ?_
      refine zw_getfR hB dX6_tires_31 zf_X6_9 rfl rfl ?_
      refine zw_iload1 hB dX6_tires_34 ?_
      refine zw_iconst (x := nI 2) hB dX6_tires_35 (by decide) ?_
      refine zw_callS2P (M' := mX6_of) hB dX6_tires_36 zl_X6_56 zg_X6_of (s_X6_of) ?_
      refine zw_ialdN hB dX6_tires_39 rfl (by omega) (by decide) ?_
      refine zw_istore4 hB dX6_tires_40 (by first | rfl | assumption) ?_
      refine zw_aload0 hB dX6_tires_42 ?_
      refine zw_getfR hB dX6_tires_43 zf_X6_9 rfl rfl ?_
      refine zw_iload1 hB dX6_tires_46 ?_
      refine zw_iconst (x := nI 2) hB dX6_tires_47 (by decide) ?_
      refine zw_callS2P (M' := mX6_of) hB dX6_tires_48 zl_X6_56 zg_X6_of (s_X6_of) ?_
      refine zw_iload2 hB dX6_tires_51 ?_
      refine zw_iastN hB dX6_tires_52 rfl (by omega) (by decide) ?_
      refine zw_iload4 hB dX6_tires_53 ?_
      refine zw_iret hB hR dX6_tires_55 rfl ?_
      rw [zq_t c21]
      refine ⟨?_, h.land ?_ ⟨rfl, rfl, rfl⟩ (fun c hc => zC_n (by omega)), fun c hc => zC_n (by omega)⟩
      · rw [nI_clamp (by omega), ← hr0]; exact congrArg (fun z => some (Value.int z)) (zro_td (by omega))
      · rw [zro_set (by omega), hr0, nI_clamp (by omega), show 23 + 4 * j + 2 = 25 + 4 * j by omega]
    · obtain ⟨k, hk, hc⟩ := (zcd_fo zcd_nb zcd_ir zcd_0).resolve_left c21
      refine zw_aload0 hB dX6_tires_24 ?_
      refine zw_iload3 hB dX6_tires_25 ?_
      refine zw_callV1 (M' := mX6_no) hB dX6_tires_26 zl_X6_48 zg_X6_no (zRc.of rfl rfl rfl) (s_X6_no _ hc hk) (fun v26 σ26 hq26 => ?_)
      obtain ⟨rfl, rfl⟩ := hq26
      refine zw_iret hB hR dX6_tires_29 rfl ?_
      exact zRQ.no h c21 hk hc
  · refine zw_iload2 hB dX6_tires_8 ?_
    refine zw_iconst (x := nI 0) hB dX6_tires_9 (by decide) ?_
    refine zw_bipush (x := nI 20) hB dX6_tires_10 (by decide) ?_
    refine zw_callS3P (M' := mX6_wrongBy) hB dX6_tires_12 zl_X6_137 zg_X6_wrongBy (s_X6_wrongBy _ _ _) ?_
    refine zw_goto (tgt := 19) hB dX6_tires_15 (by decide) ?_
    refine zw_eqI (y := zfo (znb (zIn p P)) (zir v (nI 0) (nI 20)) (nI 0)) (zfo_2 c5).symm ?_
    refine zw_istore3 hB dX6_tires_19 (by first | rfl | assumption) ?_
    refine zw_iload3 hB dX6_tires_20 ?_
    refine zw_if_eq (tgt := 30) hB dX6_tires_21 (by decide) (fun c21 => ?_) (fun c21 => ?_)
    · obtain ⟨e1, e2, -⟩ := zfo_0 c21
      obtain ⟨j, hj, rfl⟩ := zIn_j (by omega) (znb_0 e1)
      refine zw_aload0 hB dX6_tires_30 ?_
      refine zw_getfR hB dX6_tires_31 zf_X6_9 rfl rfl ?_
      refine zw_iload1 hB dX6_tires_34 ?_
      refine zw_iconst (x := nI 2) hB dX6_tires_35 (by decide) ?_
      refine zw_callS2P (M' := mX6_of) hB dX6_tires_36 zl_X6_56 zg_X6_of (s_X6_of) ?_
      refine zw_ialdN hB dX6_tires_39 rfl (by omega) (by decide) ?_
      refine zw_istore4 hB dX6_tires_40 (by first | rfl | assumption) ?_
      refine zw_aload0 hB dX6_tires_42 ?_
      refine zw_getfR hB dX6_tires_43 zf_X6_9 rfl rfl ?_
      refine zw_iload1 hB dX6_tires_46 ?_
      refine zw_iconst (x := nI 2) hB dX6_tires_47 (by decide) ?_
      refine zw_callS2P (M' := mX6_of) hB dX6_tires_48 zl_X6_56 zg_X6_of (s_X6_of) ?_
      refine zw_iload2 hB dX6_tires_51 ?_
      refine zw_iastN hB dX6_tires_52 rfl (by omega) (by decide) ?_
      refine zw_iload4 hB dX6_tires_53 ?_
      refine zw_iret hB hR dX6_tires_55 rfl ?_
      rw [zq_t c21]
      refine ⟨?_, h.land ?_ ⟨rfl, rfl, rfl⟩ (fun c hc => zC_n (by omega)), fun c hc => zC_n (by omega)⟩
      · rw [nI_clamp (by omega), ← hr0]; exact congrArg (fun z => some (Value.int z)) (zro_td (by omega))
      · rw [zro_set (by omega), hr0, nI_clamp (by omega), show 23 + 4 * j + 2 = 25 + 4 * j by omega]
    · obtain ⟨k, hk, hc⟩ := (zcd_fo zcd_nb zcd_ir zcd_0).resolve_left c21
      refine zw_aload0 hB dX6_tires_24 ?_
      refine zw_iload3 hB dX6_tires_25 ?_
      refine zw_callV1 (M' := mX6_no) hB dX6_tires_26 zl_X6_48 zg_X6_no (zRc.of rfl rfl rfl) (s_X6_no _ hc hk) (fun v26 σ26 hq26 => ?_)
      obtain ⟨rfl, rfl⟩ := hq26
      refine zw_iret hB hR dX6_tires_29 rfl ?_
      exact zRQ.no h c21 hk hc
theorem s_X6_turn {n : Nat} {σ : zSt} {S : zS} (hS : zOk S) (h : zRW S σ) (p k0 g : Int32) : zSem (n + 2) mX6_turn [.ref 50, .int p, .int k0, .int g] σ (zRQ (q_turn S p k0 g) σ) := by
  obtain ⟨⟨⟨F, P, hg0⟩, y0, hy0, ey0⟩, hkp, hlt, hrw⟩ := id hS
  have hnF := hg0.nF
  have hnP := hg0.nP
  have hr0 := h.1
  have hg : zGd (zro σ 51) F P := by rw [hr0]; exact hg0
  have hF6 := hg.F6
  have hP6 := hg.P6
  have hF : σ 51 0 = nI F := (zro_k (by omega)).symm.trans hg.r0
  have hP : σ 51 1 = nI P := (zro_k (by omega)).symm.trans hg.r1
  unfold q_turn
  try rw [hnF]
  try rw [hnP]
  refine zSem.of (by decide +kernel) (Nat.le_of_ble_eq_true rfl) (fun X hB hR => ?_)
  show zW X 0 [some (.ref 50), some (.int p), some (.int k0), some (.int g), none, none] [] σ
  refine zw_aload0 hB dX6_turn_0 ?_
  refine zw_iload1 hB dX6_turn_1 ?_
  refine zw_callV1P (M' := mX6_isFarmer) hB dX6_turn_2 zl_X6_113 zg_X6_isFarmer (zRc.of rfl rfl rfl) (s_X6_isFarmer hP hP6 _) ?_
  refine zw_if_neB (tgt := 12) hB dX6_turn_5 (by decide) (fun c5 => ?_) (fun c5 => ?_)
  · refine zw_iload2 hB dX6_turn_12 ?_
    refine zw_iconst (x := nI 0) hB dX6_turn_13 (by decide) ?_
    refine zw_iconst (x := nI 5) hB dX6_turn_14 (by decide) ?_
    refine zw_callS3P (M' := mX6_isIn) hB dX6_turn_15 zl_X6_52 zg_X6_isIn (s_X6_isIn _ _ _) ?_
    refine zw_if_neB (tgt := 26) hB dX6_turn_18 (by decide) (fun c18 => ?_) (fun c18 => ?_)
    · refine zw_iload3 hB dX6_turn_26 ?_
      refine zw_iconst (x := nI 0) hB dX6_turn_27 (by decide) ?_
      refine zw_bipush (x := nI 9) hB dX6_turn_28 (by decide) ?_
      refine zw_callS3P (M' := mX6_wrongBy) hB dX6_turn_30 zl_X6_137 zg_X6_wrongBy (s_X6_wrongBy _ _ _) ?_
      refine zw_eqI (y := zfo (znb (zIn p P)) (zou k0 (nI 5)) (zir g (nI 0) (nI 9))) (zfo_3 c5 (zou_t (by omega) c18)).symm ?_
      refine zw_istore4 hB dX6_turn_33 (by first | rfl | assumption) ?_
      refine zw_iload4 hB dX6_turn_35 ?_
      refine zw_if_eq (tgt := 47) hB dX6_turn_37 (by decide) (fun c37 => ?_) (fun c37 => ?_)
      · obtain ⟨e1, e2, -⟩ := zfo_0 c37
        obtain ⟨j, hj, rfl⟩ := zIn_j (by omega) (znb_0 e1)
        refine zw_bipush (x := nI 10) hB dX6_turn_47 (by decide) ?_
        refine zw_aload0 hB dX6_turn_49 ?_
        refine zw_getfR hB dX6_turn_50 zf_X6_9 rfl rfl ?_
        refine zw_iload1 hB dX6_turn_53 ?_
        refine zw_iconst (x := nI 0) hB dX6_turn_54 (by decide) ?_
        refine zw_callS2P (M' := mX6_of) hB dX6_turn_55 zl_X6_56 zg_X6_of (s_X6_of) ?_
        refine zw_ialdN hB dX6_turn_58 rfl (by omega) (by decide) ?_
        refine zw_imul hB dX6_turn_59 ?_
        refine zw_aload0 hB dX6_turn_60 ?_
        refine zw_getfR hB dX6_turn_61 zf_X6_9 rfl rfl ?_
        refine zw_iload1 hB dX6_turn_64 ?_
        refine zw_iconst (x := nI 1) hB dX6_turn_65 (by decide) ?_
        refine zw_callS2P (M' := mX6_of) hB dX6_turn_66 zl_X6_56 zg_X6_of (s_X6_of) ?_
        refine zw_ialdN hB dX6_turn_69 rfl (by omega) (by decide) ?_
        refine zw_iadd hB dX6_turn_70 ?_
        refine zw_istore5 hB dX6_turn_71 (by first | rfl | assumption) ?_
        refine zw_aload0 hB dX6_turn_73 ?_
        refine zw_getfR hB dX6_turn_74 zf_X6_9 rfl rfl ?_
        refine zw_iload1 hB dX6_turn_77 ?_
        refine zw_iconst (x := nI 0) hB dX6_turn_78 (by decide) ?_
        refine zw_callS2P (M' := mX6_of) hB dX6_turn_79 zl_X6_56 zg_X6_of (s_X6_of) ?_
        refine zw_iload2 hB dX6_turn_82 ?_
        refine zw_iastN hB dX6_turn_83 rfl (by omega) (by decide) ?_
        refine zw_aload0 hB dX6_turn_84 ?_
        refine zw_getfR hB dX6_turn_85 zf_X6_9 rfl rfl ?_
        refine zw_iload1 hB dX6_turn_88 ?_
        refine zw_iconst (x := nI 1) hB dX6_turn_89 (by decide) ?_
        refine zw_callS2P (M' := mX6_of) hB dX6_turn_90 zl_X6_56 zg_X6_of (s_X6_of) ?_
        refine zw_iload3 hB dX6_turn_93 ?_
        refine zw_iastN hB dX6_turn_94 rfl (by omega) (by decide) ?_
        refine zw_iload5 hB dX6_turn_95 ?_
        refine zw_iret hB hR dX6_turn_97 rfl ?_
        rw [zq_t c37]
        refine ⟨?_, h.land ?_ ⟨rfl, rfl, rfl⟩ (fun c hc => by rw [zC_n (by omega), zC_n (by omega)]), fun c hc => by rw [zC_n (by omega), zC_n (by omega)]⟩
        · rw [nI_clamp (by omega), ← hr0, zro_kd (σ := σ) (c := 51) (show j < 6 by omega), zro_fg (σ := σ) (c := 51) (show j < 6 by omega)]
        · rw [zro_set (by omega), zro_set (by omega), hr0, nI_clamp (by omega), show 23 + 4 * j + 0 = 23 + 4 * j by omega, show 23 + 4 * j + 1 = 24 + 4 * j by omega]
      · obtain ⟨k, hk, hc⟩ := (zcd_fo zcd_nb zcd_ou zcd_ir).resolve_left c37
        refine zw_aload0 hB dX6_turn_40 ?_
        refine zw_iload4 hB dX6_turn_41 ?_
        refine zw_callV1 (M' := mX6_no) hB dX6_turn_43 zl_X6_48 zg_X6_no (zRc.of rfl rfl rfl) (s_X6_no _ hc hk) (fun v43 σ43 hq43 => ?_)
        obtain ⟨rfl, rfl⟩ := hq43
        refine zw_iret hB hR dX6_turn_46 rfl ?_
        exact zRQ.no h c37 hk hc
    · refine zw_bipush (x := -2) hB dX6_turn_21 (by decide) ?_
      refine zw_goto (tgt := 33) hB dX6_turn_23 (by decide) ?_
      refine zw_eqI (y := zfo (znb (zIn p P)) (zou k0 (nI 5)) (zir g (nI 0) (nI 9))) ((zfo_4 c5 (by rw [zou_f (by omega) c18]; decide)).trans (zou_f (by omega) c18)).symm ?_
      refine zw_istore4 hB dX6_turn_33 (by first | rfl | assumption) ?_
      refine zw_iload4 hB dX6_turn_35 ?_
      refine zw_if_eq (tgt := 47) hB dX6_turn_37 (by decide) (fun c37 => ?_) (fun c37 => ?_)
      · obtain ⟨e1, e2, -⟩ := zfo_0 c37
        obtain ⟨j, hj, rfl⟩ := zIn_j (by omega) (znb_0 e1)
        refine zw_bipush (x := nI 10) hB dX6_turn_47 (by decide) ?_
        refine zw_aload0 hB dX6_turn_49 ?_
        refine zw_getfR hB dX6_turn_50 zf_X6_9 rfl rfl ?_
        refine zw_iload1 hB dX6_turn_53 ?_
        refine zw_iconst (x := nI 0) hB dX6_turn_54 (by decide) ?_
        refine zw_callS2P (M' := mX6_of) hB dX6_turn_55 zl_X6_56 zg_X6_of (s_X6_of) ?_
        refine zw_ialdN hB dX6_turn_58 rfl (by omega) (by decide) ?_
        refine zw_imul hB dX6_turn_59 ?_
        refine zw_aload0 hB dX6_turn_60 ?_
        refine zw_getfR hB dX6_turn_61 zf_X6_9 rfl rfl ?_
        refine zw_iload1 hB dX6_turn_64 ?_
        refine zw_iconst (x := nI 1) hB dX6_turn_65 (by decide) ?_
        refine zw_callS2P (M' := mX6_of) hB dX6_turn_66 zl_X6_56 zg_X6_of (s_X6_of) ?_
        refine zw_ialdN hB dX6_turn_69 rfl (by omega) (by decide) ?_
        refine zw_iadd hB dX6_turn_70 ?_
        refine zw_istore5 hB dX6_turn_71 (by first | rfl | assumption) ?_
        refine zw_aload0 hB dX6_turn_73 ?_
        refine zw_getfR hB dX6_turn_74 zf_X6_9 rfl rfl ?_
        refine zw_iload1 hB dX6_turn_77 ?_
        refine zw_iconst (x := nI 0) hB dX6_turn_78 (by decide) ?_
        refine zw_callS2P (M' := mX6_of) hB dX6_turn_79 zl_X6_56 zg_X6_of (s_X6_of) ?_
        refine zw_iload2 hB dX6_turn_82 ?_
        refine zw_iastN hB dX6_turn_83 rfl (by omega) (by decide) ?_
        refine zw_aload0 hB dX6_turn_84 ?_
        refine zw_getfR hB dX6_turn_85 zf_X6_9 rfl rfl ?_
        refine zw_iload1 hB dX6_turn_88 ?_
        refine zw_iconst (x := nI 1) hB dX6_turn_89 (by decide) ?_
        refine zw_callS2P (M' := mX6_of) hB dX6_turn_90 zl_X6_56 zg_X6_of (s_X6_of) ?_
        refine zw_iload3 hB dX6_turn_93 ?_
        refine zw_iastN hB dX6_turn_94 rfl (by omega) (by decide) ?_
        refine zw_iload5 hB dX6_turn_95 ?_
        refine zw_iret hB hR dX6_turn_97 rfl ?_
        rw [zq_t c37]
        refine ⟨?_, h.land ?_ ⟨rfl, rfl, rfl⟩ (fun c hc => by rw [zC_n (by omega), zC_n (by omega)]), fun c hc => by rw [zC_n (by omega), zC_n (by omega)]⟩
        · rw [nI_clamp (by omega), ← hr0, zro_kd (σ := σ) (c := 51) (show j < 6 by omega), zro_fg (σ := σ) (c := 51) (show j < 6 by omega)]
        · rw [zro_set (by omega), zro_set (by omega), hr0, nI_clamp (by omega), show 23 + 4 * j + 0 = 23 + 4 * j by omega, show 23 + 4 * j + 1 = 24 + 4 * j by omega]
      · obtain ⟨k, hk, hc⟩ := (zcd_fo zcd_nb zcd_ou zcd_ir).resolve_left c37
        refine zw_aload0 hB dX6_turn_40 ?_
        refine zw_iload4 hB dX6_turn_41 ?_
        refine zw_callV1 (M' := mX6_no) hB dX6_turn_43 zl_X6_48 zg_X6_no (zRc.of rfl rfl rfl) (s_X6_no _ hc hk) (fun v43 σ43 hq43 => ?_)
        obtain ⟨rfl, rfl⟩ := hq43
        refine zw_iret hB hR dX6_turn_46 rfl ?_
        exact zRQ.no h c37 hk hc
  · refine zw_iconst (x := -1) hB dX6_turn_8 (by decide) ?_
    refine zw_goto (tgt := 33) hB dX6_turn_9 (by decide) ?_
    refine zw_eqI (y := zfo (znb (zIn p P)) (zou k0 (nI 5)) (zir g (nI 0) (nI 9))) (zfo_1 c5).symm ?_
    refine zw_istore4 hB dX6_turn_33 (by first | rfl | assumption) ?_
    refine zw_iload4 hB dX6_turn_35 ?_
    refine zw_if_eq (tgt := 47) hB dX6_turn_37 (by decide) (fun c37 => ?_) (fun c37 => ?_)
    · obtain ⟨e1, e2, -⟩ := zfo_0 c37
      obtain ⟨j, hj, rfl⟩ := zIn_j (by omega) (znb_0 e1)
      refine zw_bipush (x := nI 10) hB dX6_turn_47 (by decide) ?_
      refine zw_aload0 hB dX6_turn_49 ?_
      refine zw_getfR hB dX6_turn_50 zf_X6_9 rfl rfl ?_
      refine zw_iload1 hB dX6_turn_53 ?_
      refine zw_iconst (x := nI 0) hB dX6_turn_54 (by decide) ?_
      refine zw_callS2P (M' := mX6_of) hB dX6_turn_55 zl_X6_56 zg_X6_of (s_X6_of) ?_
      refine zw_ialdN hB dX6_turn_58 rfl (by omega) (by decide) ?_
      refine zw_imul hB dX6_turn_59 ?_
      refine zw_aload0 hB dX6_turn_60 ?_
      refine zw_getfR hB dX6_turn_61 zf_X6_9 rfl rfl ?_
      refine zw_iload1 hB dX6_turn_64 ?_
      refine zw_iconst (x := nI 1) hB dX6_turn_65 (by decide) ?_
      refine zw_callS2P (M' := mX6_of) hB dX6_turn_66 zl_X6_56 zg_X6_of (s_X6_of) ?_
      refine zw_ialdN hB dX6_turn_69 rfl (by omega) (by decide) ?_
      refine zw_iadd hB dX6_turn_70 ?_
      refine zw_istore5 hB dX6_turn_71 (by first | rfl | assumption) ?_
      refine zw_aload0 hB dX6_turn_73 ?_
      refine zw_getfR hB dX6_turn_74 zf_X6_9 rfl rfl ?_
      refine zw_iload1 hB dX6_turn_77 ?_
      refine zw_iconst (x := nI 0) hB dX6_turn_78 (by decide) ?_
      refine zw_callS2P (M' := mX6_of) hB dX6_turn_79 zl_X6_56 zg_X6_of (s_X6_of) ?_
      refine zw_iload2 hB dX6_turn_82 ?_
      refine zw_iastN hB dX6_turn_83 rfl (by omega) (by decide) ?_
      refine zw_aload0 hB dX6_turn_84 ?_
      refine zw_getfR hB dX6_turn_85 zf_X6_9 rfl rfl ?_
      refine zw_iload1 hB dX6_turn_88 ?_
      refine zw_iconst (x := nI 1) hB dX6_turn_89 (by decide) ?_
      refine zw_callS2P (M' := mX6_of) hB dX6_turn_90 zl_X6_56 zg_X6_of (s_X6_of) ?_
      refine zw_iload3 hB dX6_turn_93 ?_
      refine zw_iastN hB dX6_turn_94 rfl (by omega) (by decide) ?_
      refine zw_iload5 hB dX6_turn_95 ?_
      refine zw_iret hB hR dX6_turn_97 rfl ?_
      rw [zq_t c37]
      refine ⟨?_, h.land ?_ ⟨rfl, rfl, rfl⟩ (fun c hc => by rw [zC_n (by omega), zC_n (by omega)]), fun c hc => by rw [zC_n (by omega), zC_n (by omega)]⟩
      · rw [nI_clamp (by omega), ← hr0, zro_kd (σ := σ) (c := 51) (show j < 6 by omega), zro_fg (σ := σ) (c := 51) (show j < 6 by omega)]
      · rw [zro_set (by omega), zro_set (by omega), hr0, nI_clamp (by omega), show 23 + 4 * j + 0 = 23 + 4 * j by omega, show 23 + 4 * j + 1 = 24 + 4 * j by omega]
    · obtain ⟨k, hk, hc⟩ := (zcd_fo zcd_nb zcd_ou zcd_ir).resolve_left c37
      refine zw_aload0 hB dX6_turn_40 ?_
      refine zw_iload4 hB dX6_turn_41 ?_
      refine zw_callV1 (M' := mX6_no) hB dX6_turn_43 zl_X6_48 zg_X6_no (zRc.of rfl rfl rfl) (s_X6_no _ hc hk) (fun v43 σ43 hq43 => ?_)
      obtain ⟨rfl, rfl⟩ := hq43
      refine zw_iret hB hR dX6_turn_46 rfl ?_
      exact zRQ.no h c37 hk hc
theorem s_X6_years {n : Nat} {σ : zSt} {S : zS} (hS : zOk S) (h : zRW S σ) (m : Int32) : zSem (n + 5) mX6_years [.ref 50, .int m] σ (zRQ (q_years S m) σ) := by
  obtain ⟨⟨⟨F, P, hg0⟩, y0, hy0, ey0⟩, hkp, hlt, hrw⟩ := id hS
  have hnF := hg0.nF
  have hnP := hg0.nP
  have hr0 := h.1
  have hg : zGd (zro σ 51) F P := by rw [hr0]; exact hg0
  have hF6 := hg.F6
  have hP6 := hg.P6
  have hF : σ 51 0 = nI F := (zro_k (by omega)).symm.trans hg.r0
  have hP : σ 51 1 = nI P := (zro_k (by omega)).symm.trans hg.r1
  unfold q_years
  try rw [hnF]
  try rw [hnP]
  refine zSem.of (by decide +kernel) (Nat.le_of_ble_eq_true rfl) (fun X hB hR => ?_)
  show zW X 0 [some (.ref 50), some (.int m), none] [] σ
  refine zw_iload1 hB dX6_years_0 ?_
  refine zw_iconst (x := nI 1) hB dX6_years_1 (by decide) ?_
  refine zw_icmp_ge (tgt := 12) hB dX6_years_2 (by decide) (fun c2 => ?_) (fun c2 => ?_)
  · refine zw_iload1 hB dX6_years_12 ?_
    refine zw_bipush (x := nI 60) hB dX6_years_13 (by decide) ?_
    refine zw_icmp_gt (tgt := 32) hB dX6_years_15 (by decide) (fun c15 => ?_) (fun c15 => ?_)
    · refine zw_aload0 hB dX6_years_32 ?_
      refine zw_bipush (x := -6) hB dX6_years_33 (by decide) ?_
      refine zw_callV1 (M' := mX6_no) hB dX6_years_35 zl_X6_48 zg_X6_no (zRc.of rfl rfl rfl) (s_X6_no (k := 6) _ (by decide) (by omega)) (fun v35 σ35 hq35 => ?_)
      obtain ⟨rfl, rfl⟩ := hq35
      refine zw_iret hB hR dX6_years_38 rfl ?_
      rw [show zfo (zir m (nI 1) (nI 60)) (zrO (m ≤ nI 999 - S.1 4)) (nI 0) = -6 by unfold zir; rw [if_neg (Int32.not_lt.mpr c2), if_pos c15]; rfl]
      exact zRQ.no h (by decide) (by omega) (by decide)
    · obtain ⟨x, hx, rfl⟩ : ∃ x, x < 61 ∧ m = nI x := by
        rcases zix m 61 (by omega) with (q | q) | q
        · exact absurd (Int32.lt_of_lt_of_le q (show (0 : Int32) ≤ nI 1 by decide)) (Int32.not_lt.mpr c2)
        · exact absurd (Int32.lt_of_lt_of_le (show nI 60 < nI 61 by decide) q.2) c15
        · exact q
      have hx1 : 1 ≤ x := (nI_leI (by omega) (by omega)).mp c2
      have hx3 : zir (nI x) (nI 1) (nI 60) = 0 := by unfold zir; rw [if_neg (Int32.not_lt.mpr c2), if_neg c15]; rfl
      refine zw_aload0 hB dX6_years_18 ?_
      refine zw_getfR hB dX6_years_19 zf_X6_9 rfl rfl ?_
      refine zw_iconst (x := nI 4) hB dX6_years_22 (by decide) ?_
      refine zw_ialdV (x := nI y0) hB dX6_years_23 rfl (by omega) (by decide) ((zro_k (by omega)).symm.trans (by rw [hr0]; exact ey0)) ?_
      refine zw_iload1 hB dX6_years_24 ?_
      refine zw_iaddN hB dX6_years_25 ?_
      refine zw_sipush (x := nI 999) hB dX6_years_26 (by decide) ?_
      refine zw_icmp_leN (tgt := 39) hB dX6_years_29 (by decide) (by omega) (by omega) (fun c29 => ?_) (fun c29 => ?_)
      · refine zw_aload0 hB dX6_years_39 ?_
        refine zw_aload0 hB dX6_years_40 ?_
        refine zw_getfR hB dX6_years_41 zf_X6_9 rfl rfl ?_
        refine zw_iload1 hB dX6_years_44 ?_
        refine zw_callV2 (M' := mX6_yearsOn) hB dX6_years_45 zl_X6_124 zg_X6_yearsOn (zRc.of rfl rfl rfl) (s_X6_yearsOn rfl (by omega) hg (by omega)) (fun v45 σ45 hq45 => ?_)
        obtain ⟨rfl, x1, x2, x3, x4⟩ := hq45
        refine zw_istore2 hB dX6_years_48 (by first | rfl | assumption) ?_
        refine zw_aload0 hB dX6_years_49 ?_
        refine zw_getfR hB dX6_years_50 zf_X6_9 rfl rfl ?_
        refine zw_iconst (x := nI 3) hB dX6_years_53 (by decide) ?_
        refine zw_ialdV (x := zYs (zro σ 51) x 3) hB dX6_years_54 rfl (by omega) (by decide) ((zro_k (by omega)).symm.trans (congrFun x1 3)) ?_
        refine zw_iret hB hR dX6_years_55 rfl ?_
        have e9 : zfo (zir (nI x) (nI 1) (nI 60)) (zrO (nI x ≤ nI 999 - S.1 4)) (nI 0) = 0 := by
          rw [hx3, ey0]
          unfold zrO
          rw [if_pos]
          · rfl
          · rw [pk_sub (by omega), nI_leI (by omega) (by omega)]
            omega
        rw [zq_t e9]
        refine ⟨by rw [nI_clamp (by omega), hr0], h.land ?_ (by rw [x4 50 (by omega) (by omega) (by omega)]; exact ⟨rfl, rfl, rfl⟩) (fun c hc => x4 c (by omega) (by omega) (by omega)), fun c hc => x4 c (by omega) (by omega) (by omega)⟩
        rw [x1, hr0, nI_clamp (by omega)]
      · refine zw_aload0 hB dX6_years_32 ?_
        refine zw_bipush (x := -6) hB dX6_years_33 (by decide) ?_
        refine zw_callV1 (M' := mX6_no) hB dX6_years_35 zl_X6_48 zg_X6_no (zRc.of rfl rfl rfl) (s_X6_no (k := 6) _ (by decide) (by omega)) (fun v35 σ35 hq35 => ?_)
        obtain ⟨rfl, rfl⟩ := hq35
        refine zw_iret hB hR dX6_years_38 rfl ?_
        rw [show zfo (zir (nI x) (nI 1) (nI 60)) (zrO (nI x ≤ nI 999 - S.1 4)) (nI 0) = -6 by
          rw [hx3, ey0]
          unfold zrO
          rw [if_neg (fun z => ?_)]
          · rfl
          · rw [pk_sub (by omega), nI_leI (by omega) (by omega)] at z
            omega]
        exact zRQ.no h (by decide) (by omega) (by decide)
  · refine zw_aload0 hB dX6_years_5 ?_
    refine zw_bipush (x := -4) hB dX6_years_6 (by decide) ?_
    refine zw_callV1 (M' := mX6_no) hB dX6_years_8 zl_X6_48 zg_X6_no (zRc.of rfl rfl rfl) (s_X6_no (k := 4) _ (by decide) (by omega)) (fun v8 σ8 hq8 => ?_)
    obtain ⟨rfl, rfl⟩ := hq8
    refine zw_iret hB hR dX6_years_11 rfl ?_
    rw [show zfo (zir m (nI 1) (nI 60)) (zrO (m ≤ nI 999 - S.1 4)) (nI 0) = -4 by unfold zir; rw [if_pos (Int32.not_le.mp c2)]; rfl]
    exact zRQ.no h (by decide) (by omega) (by decide)
theorem s_X6_heartThen {n : Nat} {σ : zSt} {S : zS} (hS : zOk S) (h : zRW S σ) (f s m : Int32) : zSem (n + 6) mX6_heartThen [.ref 50, .int f, .int s, .int m] σ (zRQ (q_heartThen S f s m) σ) := by
  obtain ⟨⟨⟨F, P, hg0⟩, y0, hy0, ey0⟩, hkp, hlt, hrw⟩ := id hS
  have hnF := hg0.nF
  have hnP := hg0.nP
  have hr0 := h.1
  have hg : zGd (zro σ 51) F P := by rw [hr0]; exact hg0
  have hF6 := hg.F6
  have hP6 := hg.P6
  have hF : σ 51 0 = nI F := (zro_k (by omega)).symm.trans hg.r0
  have hP : σ 51 1 = nI P := (zro_k (by omega)).symm.trans hg.r1
  unfold q_heartThen
  try rw [hnF]
  try rw [hnP]
  refine zSem.of (by decide +kernel) (Nat.le_of_ble_eq_true rfl) (fun X hB hR => ?_)
  show zW X 0 [some (.ref 50), some (.int f), some (.int s), some (.int m), none, none] [] σ
  refine zw_aload0 hB dX6_heartThen_0 ?_
  refine zw_iload1 hB dX6_heartThen_1 ?_
  refine zw_callV1P (M' := mX6_isFarm) hB dX6_heartThen_2 zl_X6_117 zg_X6_isFarm (zRc.of rfl rfl rfl) (s_X6_isFarm hF hF6 _) ?_
  refine zw_if_eqB (tgt := 27) hB dX6_heartThen_5 (by decide) (fun c5 => ?_) (fun c5 => ?_)
  · refine zw_iconst (x := -1) hB dX6_heartThen_27 (by decide) ?_
    refine zw_eqI (y := zfo (znb (zIn f F ∧ zIn s 3)) (zir m (nI 0) (nI 60)) (nI 0)) (zfo_1 (fun z => c5 z.1)).symm ?_
    refine zw_istore4 hB dX6_heartThen_28 (by first | rfl | assumption) ?_
    refine zw_iload4 hB dX6_heartThen_30 ?_
    refine zw_if_eq (tgt := 42) hB dX6_heartThen_32 (by decide) (fun c32 => ?_) (fun c32 => ?_)
    · obtain ⟨e1, e2, -⟩ := zfo_0 c32
      obtain ⟨z1, z2⟩ := znb_0 e1
      obtain ⟨j, hj, rfl⟩ := zIn_j (by omega) z1
      obtain ⟨i, hi, rfl⟩ := zIn_j (by omega) z2
      obtain ⟨m, -, hm, rfl⟩ := zir_0 (by omega) (by omega) e2
      refine zw_aload0 hB dX6_heartThen_42 ?_
      refine zw_iload3 hB dX6_heartThen_43 ?_
      refine zw_callV1 (M' := mX6_takes) hB dX6_heartThen_44 zl_X6_141 zg_X6_takes (zRc.of rfl rfl rfl) (s_X6_takes hg (by omega)) (fun v44 σ44 hq44 => ?_)
      obtain ⟨rfl, x1, x2, x3, x4⟩ := hq44
      refine zw_istore5 hB dX6_heartThen_47 (by first | rfl | assumption) ?_
      refine zw_aload0 hB dX6_heartThen_49 ?_
      refine zw_getfR hB dX6_heartThen_50 zf_X6_13 rfl rfl ?_
      refine zw_iload1 hB dX6_heartThen_53 ?_
      refine zw_iload2 hB dX6_heartThen_54 ?_
      refine zw_callS2P (M' := mX6_heart) hB dX6_heartThen_55 zl_X6_60 zg_X6_heart (s_X6_heart) ?_
      refine zw_ialdN hB dX6_heartThen_58 rfl (by omega) (by decide) ?_
      refine zw_iret hB hR dX6_heartThen_59 rfl ?_
      refine zRQ.ok h c32 ?_ (by rw [x4 50 (by omega) (by omega) (by omega)]; exact ⟨rfl, rfl, rfl⟩) (fun c hc => x4 c (by omega) (by omega) (by omega))
      rw [nI_clamp (by omega), nI_clamp (by omega), nI_clamp (by omega), ← hr0, ← x1, zro_k (by omega)]
    · obtain ⟨k, hk, hc⟩ := (zcd_fo zcd_nb zcd_ir zcd_0).resolve_left c32
      refine zw_aload0 hB dX6_heartThen_35 ?_
      refine zw_iload4 hB dX6_heartThen_36 ?_
      refine zw_callV1 (M' := mX6_no) hB dX6_heartThen_38 zl_X6_48 zg_X6_no (zRc.of rfl rfl rfl) (s_X6_no _ hc hk) (fun v38 σ38 hq38 => ?_)
      obtain ⟨rfl, rfl⟩ := hq38
      refine zw_iret hB hR dX6_heartThen_41 rfl ?_
      exact zRQ.no h c32 hk hc
  · refine zw_iload2 hB dX6_heartThen_8 ?_
    refine zw_iconst (x := nI 0) hB dX6_heartThen_9 (by decide) ?_
    refine zw_iconst (x := nI 2) hB dX6_heartThen_10 (by decide) ?_
    refine zw_callS3P (M' := mX6_isIn) hB dX6_heartThen_11 zl_X6_52 zg_X6_isIn (s_X6_isIn _ _ _) ?_
    refine zw_if_eqB (tgt := 27) hB dX6_heartThen_14 (by decide) (fun c14 => ?_) (fun c14 => ?_)
    · refine zw_iconst (x := -1) hB dX6_heartThen_27 (by decide) ?_
      refine zw_eqI (y := zfo (znb (zIn f F ∧ zIn s 3)) (zir m (nI 0) (nI 60)) (nI 0)) (zfo_1 (fun z => c14 ((zis (by omega)).mpr z.2))).symm ?_
      refine zw_istore4 hB dX6_heartThen_28 (by first | rfl | assumption) ?_
      refine zw_iload4 hB dX6_heartThen_30 ?_
      refine zw_if_eq (tgt := 42) hB dX6_heartThen_32 (by decide) (fun c32 => ?_) (fun c32 => ?_)
      · obtain ⟨e1, e2, -⟩ := zfo_0 c32
        obtain ⟨z1, z2⟩ := znb_0 e1
        obtain ⟨j, hj, rfl⟩ := zIn_j (by omega) z1
        obtain ⟨i, hi, rfl⟩ := zIn_j (by omega) z2
        obtain ⟨m, -, hm, rfl⟩ := zir_0 (by omega) (by omega) e2
        refine zw_aload0 hB dX6_heartThen_42 ?_
        refine zw_iload3 hB dX6_heartThen_43 ?_
        refine zw_callV1 (M' := mX6_takes) hB dX6_heartThen_44 zl_X6_141 zg_X6_takes (zRc.of rfl rfl rfl) (s_X6_takes hg (by omega)) (fun v44 σ44 hq44 => ?_)
        obtain ⟨rfl, x1, x2, x3, x4⟩ := hq44
        refine zw_istore5 hB dX6_heartThen_47 (by first | rfl | assumption) ?_
        refine zw_aload0 hB dX6_heartThen_49 ?_
        refine zw_getfR hB dX6_heartThen_50 zf_X6_13 rfl rfl ?_
        refine zw_iload1 hB dX6_heartThen_53 ?_
        refine zw_iload2 hB dX6_heartThen_54 ?_
        refine zw_callS2P (M' := mX6_heart) hB dX6_heartThen_55 zl_X6_60 zg_X6_heart (s_X6_heart) ?_
        refine zw_ialdN hB dX6_heartThen_58 rfl (by omega) (by decide) ?_
        refine zw_iret hB hR dX6_heartThen_59 rfl ?_
        refine zRQ.ok h c32 ?_ (by rw [x4 50 (by omega) (by omega) (by omega)]; exact ⟨rfl, rfl, rfl⟩) (fun c hc => x4 c (by omega) (by omega) (by omega))
        rw [nI_clamp (by omega), nI_clamp (by omega), nI_clamp (by omega), ← hr0, ← x1, zro_k (by omega)]
      · obtain ⟨k, hk, hc⟩ := (zcd_fo zcd_nb zcd_ir zcd_0).resolve_left c32
        refine zw_aload0 hB dX6_heartThen_35 ?_
        refine zw_iload4 hB dX6_heartThen_36 ?_
        refine zw_callV1 (M' := mX6_no) hB dX6_heartThen_38 zl_X6_48 zg_X6_no (zRc.of rfl rfl rfl) (s_X6_no _ hc hk) (fun v38 σ38 hq38 => ?_)
        obtain ⟨rfl, rfl⟩ := hq38
        refine zw_iret hB hR dX6_heartThen_41 rfl ?_
        exact zRQ.no h c32 hk hc
    · refine zw_iload3 hB dX6_heartThen_17 ?_
      refine zw_iconst (x := nI 0) hB dX6_heartThen_18 (by decide) ?_
      refine zw_bipush (x := nI 60) hB dX6_heartThen_19 (by decide) ?_
      refine zw_callS3P (M' := mX6_wrongBy) hB dX6_heartThen_21 zl_X6_137 zg_X6_wrongBy (s_X6_wrongBy _ _ _) ?_
      refine zw_goto (tgt := 28) hB dX6_heartThen_24 (by decide) ?_
      refine zw_eqI (y := zfo (znb (zIn f F ∧ zIn s 3)) (zir m (nI 0) (nI 60)) (nI 0)) (zfo_2 ⟨c5, (zis (N := 2) (by omega)).mp c14⟩).symm ?_
      refine zw_istore4 hB dX6_heartThen_28 (by first | rfl | assumption) ?_
      refine zw_iload4 hB dX6_heartThen_30 ?_
      refine zw_if_eq (tgt := 42) hB dX6_heartThen_32 (by decide) (fun c32 => ?_) (fun c32 => ?_)
      · obtain ⟨e1, e2, -⟩ := zfo_0 c32
        obtain ⟨z1, z2⟩ := znb_0 e1
        obtain ⟨j, hj, rfl⟩ := zIn_j (by omega) z1
        obtain ⟨i, hi, rfl⟩ := zIn_j (by omega) z2
        obtain ⟨m, -, hm, rfl⟩ := zir_0 (by omega) (by omega) e2
        refine zw_aload0 hB dX6_heartThen_42 ?_
        refine zw_iload3 hB dX6_heartThen_43 ?_
        refine zw_callV1 (M' := mX6_takes) hB dX6_heartThen_44 zl_X6_141 zg_X6_takes (zRc.of rfl rfl rfl) (s_X6_takes hg (by omega)) (fun v44 σ44 hq44 => ?_)
        obtain ⟨rfl, x1, x2, x3, x4⟩ := hq44
        refine zw_istore5 hB dX6_heartThen_47 (by first | rfl | assumption) ?_
        refine zw_aload0 hB dX6_heartThen_49 ?_
        refine zw_getfR hB dX6_heartThen_50 zf_X6_13 rfl rfl ?_
        refine zw_iload1 hB dX6_heartThen_53 ?_
        refine zw_iload2 hB dX6_heartThen_54 ?_
        refine zw_callS2P (M' := mX6_heart) hB dX6_heartThen_55 zl_X6_60 zg_X6_heart (s_X6_heart) ?_
        refine zw_ialdN hB dX6_heartThen_58 rfl (by omega) (by decide) ?_
        refine zw_iret hB hR dX6_heartThen_59 rfl ?_
        refine zRQ.ok h c32 ?_ (by rw [x4 50 (by omega) (by omega) (by omega)]; exact ⟨rfl, rfl, rfl⟩) (fun c hc => x4 c (by omega) (by omega) (by omega))
        rw [nI_clamp (by omega), nI_clamp (by omega), nI_clamp (by omega), ← hr0, ← x1, zro_k (by omega)]
      · obtain ⟨k, hk, hc⟩ := (zcd_fo zcd_nb zcd_ir zcd_0).resolve_left c32
        refine zw_aload0 hB dX6_heartThen_35 ?_
        refine zw_iload4 hB dX6_heartThen_36 ?_
        refine zw_callV1 (M' := mX6_no) hB dX6_heartThen_38 zl_X6_48 zg_X6_no (zRc.of rfl rfl rfl) (s_X6_no _ hc hk) (fun v38 σ38 hq38 => ?_)
        obtain ⟨rfl, rfl⟩ := hq38
        refine zw_iret hB hR dX6_heartThen_41 rfl ?_
        exact zRQ.no h c32 hk hc
