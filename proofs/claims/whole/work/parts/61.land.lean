/-! LETTERS: the reference's land -/

theorem s_X6_isDone {n : Nat} {σ : zSt} {l : List Int32} {b : Nat} (hs : zsx (zlc l) l.length b = none) (hN : zNb l b σ) (hln : zLn (zro σ 51)) : zSem (n + 5) mX6_isDone [.ref 50, .int (nI (zlc l b))] σ (zDm (zdo (zlc l) b (zro σ 51)) σ) := by
  obtain ⟨⟨F, P, hg⟩, y, hy, ey⟩ := id hln
  obtain ⟨hb, hz, hk⟩ := zsx_no hs
  obtain ⟨N1, N2, N3, N4, N5, N6, N7⟩ := hN
  rcases zsh_of hz with q102 | q112 | q97 | q111 | q104 | q115 | q121
  · have ez : zdo (zlc l) b (zro σ 51) = zdF (zlc l) b (zro σ 51) := by
      unfold zdo
      rw [if_pos q102]
    have k0 := hk 0 (by rw [q102]; decide)
    rw [q102] at k0
    have e0 := zft_d (c := zlc l (b + 1)) k0.2
    have k1 := hk 1 (by rw [q102]; decide)
    rw [q102] at k1
    have e1 := zft_d (c := zlc l (b + 2)) k1.2
    have k2 := hk 2 (by rw [q102]; decide)
    rw [q102] at k2
    have e2 := zft_d (c := zlc l (b + 3)) k2.2
    have k3 := hk 3 (by rw [q102]; decide)
    rw [q102] at k3
    have e3 := zft_d (c := zlc l (b + 4)) k3.2
    have k4 := hk 4 (by rw [q102]; decide)
    rw [q102] at k4
    have e4 := zft_d (c := zlc l (b + 5)) k4.2
    have k5 := hk 5 (by rw [q102]; decide)
    rw [q102] at k5
    have e5 := zft_d (c := zlc l (b + 6)) k5.2
    have f1 : zlc l (b + 1 + 1) = zlc l (b + 2) := rfl
    have f3 : zlc l (b + 3 + 1) = zlc l (b + 4) := rfl
    have f5 : zlc l (b + 5 + 1) = zlc l (b + 6) := rfl
    have w := N1 q102
    rw [ez, q102]
    exact s_X6_isDone_f hg (by unfold zn2; omega) (by unfold zn2; omega) (by unfold zn2; omega) w.1 w.2.1 w.2.2
  · have ez : zdo (zlc l) b (zro σ 51) = zdP (zlc l) b (zro σ 51) := by
      unfold zdo
      rw [if_neg (by omega), if_pos q112]
    have w := N2 q112
    rw [ez, q112]
    exact s_X6_isDone_p hg w.1 w.2
  · have ez : zdo (zlc l) b (zro σ 51) = zdA (zlc l (b + 1) - 48) (zlc l (b + 2) - 48) (zro σ 51) := by
      unfold zdo
      rw [if_neg (by omega), if_neg (by omega), if_pos q97]
    have k0 := hk 0 (by rw [q97]; decide)
    rw [q97] at k0
    have e0 := zft_d (c := zlc l (b + 1)) k0.2
    have k1 := hk 1 (by rw [q97]; decide)
    rw [q97] at k1
    have e1 := zft_d (c := zlc l (b + 2)) k1.2
    have w := N3 q97
    rw [ez, q97]
    exact s_X6_isDone_a hg (by omega) (by omega) w.1 w.2
  · have ez : zdo (zlc l) b (zro σ 51) = zdO (zlc l (b + 1) - 48) (zro σ 51) := by
      unfold zdo
      rw [if_neg (by omega), if_neg (by omega), if_neg (by omega), if_pos q111]
    have k0 := hk 0 (by rw [q111]; decide)
    rw [q111] at k0
    have e0 := zft_d (c := zlc l (b + 1)) k0.2
    have w := N4 q111
    rw [ez, q111]
    exact s_X6_isDone_o hg (by omega) w
  · have ez : zdo (zlc l) b (zro σ 51) = zdH (zlc l (b + 1) - 48) (zlc l (b + 2) - 48) (zn2 (zlc l) (b + 3)) (zro σ 51) := by
      unfold zdo
      rw [if_neg (by omega), if_neg (by omega), if_neg (by omega), if_neg (by omega), if_pos q104]
    have k0 := hk 0 (by rw [q104]; decide)
    rw [q104] at k0
    have e0 := zft_d (c := zlc l (b + 1)) k0.2
    have k1 := hk 1 (by rw [q104]; decide)
    rw [q104] at k1
    have e1 := zft_d (c := zlc l (b + 2)) k1.2
    have k2 := hk 2 (by rw [q104]; decide)
    rw [q104] at k2
    have e2 := zft_d (c := zlc l (b + 3)) k2.2
    have k3 := hk 3 (by rw [q104]; decide)
    rw [q104] at k3
    have e3 := zft_d (c := zlc l (b + 4)) k3.2
    have f3 : zlc l (b + 3 + 1) = zlc l (b + 4) := rfl
    have w := N6 q104
    rw [ez, q104]
    exact s_X6_isDone_h hg (by omega) (by omega) (by unfold zn2; omega) w.1 w.2.1 w.2.2
  · have ez : zdo (zlc l) b (zro σ 51) = zdS (zlc l (b + 1) - 48) (zro σ 51) := by
      unfold zdo
      rw [if_neg (by omega), if_neg (by omega), if_neg (by omega), if_neg (by omega), if_neg (by omega), if_pos q115]
    have k0 := hk 0 (by rw [q115]; decide)
    rw [q115] at k0
    have e0 := zft_d (c := zlc l (b + 1)) k0.2
    have w := N5 q115
    rw [ez, q115]
    exact s_X6_isDone_s hg (by omega) w
  · have ez : zdo (zlc l) b (zro σ 51) = zdY (zn2 (zlc l) (b + 1)) (zro σ 51) := by
      unfold zdo
      rw [if_neg (by omega), if_neg (by omega), if_neg (by omega), if_neg (by omega), if_neg (by omega), if_neg (by omega)]
    have k0 := hk 0 (by rw [q121]; decide)
    rw [q121] at k0
    have e0 := zft_d (c := zlc l (b + 1)) k0.2
    have k1 := hk 1 (by rw [q121]; decide)
    rw [q121] at k1
    have e1 := zft_d (c := zlc l (b + 2)) k1.2
    have f1 : zlc l (b + 1 + 1) = zlc l (b + 2) := rfl
    have w := N7 q121
    rw [ez, q121]
    exact s_X6_isDone_y hg (by unfold zn2; omega) hy ey w
theorem s_X6_land {n : Nat} {σ : zSt} {S : zS} (hS : zOk S) (h : zRW S σ)  : zSem (n + 6) mX6_land [.ref 50] σ (zRQ (q_land S ) σ) := by
  obtain ⟨⟨⟨F, P, hg0⟩, y0, hy0, ey0⟩, hkp, hlt, hrw⟩ := id hS
  have hnF := hg0.nF
  have hnP := hg0.nP
  have hr0 := h.1
  have hg : zGd (zro σ 51) F P := by rw [hr0]; exact hg0
  have hF6 := hg.F6
  have hP6 := hg.P6
  have hF : σ 51 0 = nI F := (zro_k (by omega)).symm.trans hg.r0
  have hP : σ 51 1 = nI P := (zro_k (by omega)).symm.trans hg.r1
  unfold q_land
  try rw [hnF]
  try rw [hnP]
  refine zSem.of (by decide +kernel) (Nat.le_of_ble_eq_true rfl) (fun X hB hR => ?_)
  show zW X 0 [some (.ref 50), none, none, none, none, none] [] σ
  have hl96 := hlt.1
  have hE : ∀ (υ : zSt) (a1 f2 : Int32) (a3 a4 a5 : Option Value) (R : zRw), (∀ c, c ≠ 50 → c ≠ 51 → c ≠ 54 → c ≠ 55 → c ≠ 56 → c ≠ 60 → υ c = σ c) → (∀ i, i ≠ 12 → υ 50 i = σ 50 i) → zro υ 51 = R → (if f2 = -9 then a1 else f2) = (zla S.2.2.1 S.1).1 → R = (zla S.2.2.1 S.1).2 → zW X 128 [some (.ref 50), some (.int a1), some (.int f2), a3, a4, a5] [] υ := by
    intro υ a1 f2 a3 a4 a5 R o1 o2 hr ha hR2
    refine zw_aload0 hB dX6_land_128 ?_
    refine zw_iconst (x := nI 0) hB dX6_land_129 (by decide) ?_
    refine zw_putfI hB dX6_land_130 zfw_X6_91 rfl rfl ?_
    refine zw_iload2 hB dX6_land_133 ?_
    refine zw_bipush (x := -9) hB dX6_land_134 (by decide) ?_
    refine zw_icmp_ne (tgt := 143) hB dX6_land_136 (by decide) (fun c136 => ?_) (fun c136 => ?_)
    · refine zw_iload2 hB dX6_land_143 ?_
      refine zw_iret hB hR dX6_land_144 rfl ?_
      have hv : f2 = (zla S.2.2.1 S.1).1 := by
        rw [← ha]
        exact (if_neg c136).symm
      have hC1 : zRW (R, S.2) υ := h.land hr ⟨o2 6 (by omega), o2 10 (by omega), o2 11 (by omega)⟩ (fun c hc => o1 c (by omega) (by omega) (by omega) (by omega) (by omega) (by omega))
      refine ⟨by rw [hv], ?_, fun c hc => ?_⟩
      · rw [← hR2]
        refine hC1.letL (fun k hk => ?_) (fun c h1 _ => zC_n h1) ?_ zArr.nil
        · rw [zC_s]; exact zupd_o hk
        · rw [zC_s]; exact zupd_s
      · rw [zC_n (by omega)]; exact o1 c (by omega) (by omega) (by omega) (by omega) (by omega) (by omega)
    · refine zw_iload1 hB dX6_land_139 ?_
      refine zw_goto (tgt := 144) hB dX6_land_140 (by decide) ?_
      refine zw_iret hB hR dX6_land_144 rfl ?_
      have hv : a1 = (zla S.2.2.1 S.1).1 := by
        rw [← ha]
        exact (if_pos c136).symm
      have hC1 : zRW (R, S.2) υ := h.land hr ⟨o2 6 (by omega), o2 10 (by omega), o2 11 (by omega)⟩ (fun c hc => o1 c (by omega) (by omega) (by omega) (by omega) (by omega) (by omega))
      refine ⟨by rw [hv], ?_, fun c hc => ?_⟩
      · rw [← hR2]
        refine hC1.letL (fun k hk => ?_) (fun c h1 _ => zC_n h1) ?_ zArr.nil
        · rw [zC_s]; exact zupd_o hk
        · rw [zC_s]; exact zupd_s
      · rw [zC_n (by omega)]; exact o1 c (by omega) (by omega) (by omega) (by omega) (by omega) (by omega)
  have hex1 : ∀ (υ : zSt) (a1 f2 : Int32) (a3 a4 a5 : Option Value), ¬ f2 = -9 → (∀ c, c ≠ 50 → c ≠ 51 → c ≠ 54 → c ≠ 55 → c ≠ 56 → c ≠ 60 → υ c = σ c) → (∀ i, i ≠ 12 → υ 50 i = σ 50 i) → zro υ 51 = S.1 → f2 = (zla S.2.2.1 S.1).1 → S.1 = (zla S.2.2.1 S.1).2 → zW X 62 [some (.ref 50), some (.int a1), some (.int f2), a3, a4, a5] [] υ := by
    intro υ a1 f2 a3 a4 a5 hf o1 o2 hr ha hR2
    refine zw_iload2 hB dX6_land_62 ?_
    refine zw_bipush (x := -9) hB dX6_land_63 (by decide) ?_
    refine zw_icmp_ne (tgt := 128) hB dX6_land_65 (by decide) (fun c65 => ?_) (fun c65 => by first | exact absurd hf c65 | exact absurd c65 hf | omega)
    exact hE _ _ _ _ _ _ _ o1 o2 hr (by rw [if_neg hf]; exact ha) hR2
  have hl2 : zpf (zlc S.2.2.1) S.2.2.1.length (S.2.2.1.length + 1) 0 = none → ∀ (a3 a4 a5 : Option Value) (n : Nat) (υ : zSt) (b m : Nat) (r : zRw), b < S.2.2.1.length → zpf (zlc S.2.2.1) S.2.2.1.length n b = none → zLn r → zro υ 51 = r → (∀ c, c ≠ 50 → c ≠ 51 → c ≠ 54 → c ≠ 55 → c ≠ 56 → c ≠ 60 → υ c = σ c) → (∀ i, i ≠ 12 → υ 50 i = σ 50 i) → υ 50 12 = nI b → zro υ 54 = S.1 → m ≤ b → zxr (zlc S.2.2.1) S.2.2.1.length (S.2.2.1.length + 1) 0 0 S.1 = zxr (zlc S.2.2.1) S.2.2.1.length n b m r → zW X 62 [some (.ref 50), some (.int (nI (zpn (zlc S.2.2.1) S.2.2.1.length (S.2.2.1.length + 1) 0 0))), some (.int (-9)), a3, a4, a5] [] υ := by
    intro hz a3 a4 a5 n
    have hex2 : ∀ (υ : zSt) (a3 a4 a5 : Option Value) (b m : Nat) {r : zRw}, S.2.2.1.length ≤ b → b < 1000 → (∀ c, c ≠ 50 → c ≠ 51 → c ≠ 54 → c ≠ 55 → c ≠ 56 → c ≠ 60 → υ c = σ c) → (∀ i, i ≠ 12 → υ 50 i = σ 50 i) → zro υ 51 = r → υ 50 12 = nI b → zxr (zlc S.2.2.1) S.2.2.1.length (S.2.2.1.length + 1) 0 0 S.1 = (none, m, r) → zW X 62 [some (.ref 50), some (.int (nI (zpn (zlc S.2.2.1) S.2.2.1.length (S.2.2.1.length + 1) 0 0))), some (.int (-9)), a3, a4, a5] [] υ := by
      intro υ a3 a4 a5 b m r hb hb9 o1 o2 hr hp hx
      refine zw_iload2 hB dX6_land_62 ?_
      refine zw_bipush (x := -9) hB dX6_land_63 (by decide) ?_
      refine zw_icmp_ne (tgt := 128) hB dX6_land_65 (by decide) (fun c65 => by first | exact absurd c65 (fun z => z rfl) | exact absurd (fun z => z rfl) c65 | omega) (fun c65 => ?_)
      refine zw_aload0 hB dX6_land_68 ?_
      refine zw_getfV (x := nI b) hB dX6_land_69 zf_X6_95 rfl rfl (hp) ?_
      refine zw_aload0 hB dX6_land_72 ?_
      refine zw_getfV (x := nI S.2.2.1.length) hB dX6_land_73 zf_X6_91 rfl rfl ((o2 10 (by omega)).trans h.2.2.1.1) ?_
      refine zw_icmp_geN (tgt := 128) hB dX6_land_76 (by decide) (by omega) (by omega) (fun c76 => ?_) (fun c76 => by first | exact absurd hb c76 | exact absurd c76 hb | omega)
      have e9 := zla_o hz hx
      exact hE _ _ _ _ _ _ _ o1 o2 hr (by rw [if_pos rfl, e9]; exact congrArg nI (zxr_pn _ _ _ _ _ _ hz hx).symm) (by rw [e9])
    revert a3 a4 a5
    induction n with
    | zero =>
      intro a3 a4 a5 υ b m r hb hpf
      cases hpf
    | succ n ih =>
      intro a3 a4 a5 υ b m r hb hpf hrl hr o1 o2 hp h54 hm hx
      have hpf := zpf_s hpf
      have hs := hpf.1
      refine zw_iload2 hB dX6_land_62 ?_
      refine zw_bipush (x := -9) hB dX6_land_63 (by decide) ?_
      refine zw_icmp_ne (tgt := 128) hB dX6_land_65 (by decide) (fun c65 => by first | exact absurd c65 (fun z => z rfl) | exact absurd (fun z => z rfl) c65 | omega) (fun c65 => ?_)
      refine zw_aload0 hB dX6_land_68 ?_
      refine zw_getfV (x := nI b) hB dX6_land_69 zf_X6_95 rfl rfl (hp) ?_
      refine zw_aload0 hB dX6_land_72 ?_
      refine zw_getfV (x := nI S.2.2.1.length) hB dX6_land_73 zf_X6_91 rfl rfl ((o2 10 (by omega)).trans h.2.2.1.1) ?_
      refine zw_icmp_geN (tgt := 128) hB dX6_land_76 (by decide) (by omega) (by omega) (fun c76 => by first | exact absurd c76 (by omega) | exact absurd (by omega) c76 | omega) (fun c76 => ?_)
      refine zw_aload0 hB dX6_land_79 ?_
      refine zw_getfV (x := nI b) hB dX6_land_80 zf_X6_95 rfl rfl (hp) ?_
      refine zw_istore3 hB dX6_land_83 (by first | rfl | assumption) ?_
      refine zw_aload0 hB dX6_land_84 ?_
      refine zw_callV0P (M' := mX6_here) hB dX6_land_85 zl_X6_98 zg_X6_here (zRc.of rfl rfl rfl) (s_X6_here (l := S.2.2.1) ((o2 10 (by omega)).trans h.2.2.1.1) hlt.1 (by rw [o1 57 (by omega) (by omega) (by omega) (by omega) (by omega) (by omega)]; exact h.2.2.1.2) hlt.2 (q := b) (by omega) hp) ?_
      rw [show zhr S.2.2.1 b = nI (zlc S.2.2.1 b) from if_pos hb]
      refine zw_istore4 hB dX6_land_88 (by first | rfl | assumption) ?_
      refine zw_aload0 hB dX6_land_90 ?_
      refine zw_callV0 (M' := mX6_readsStatement) hB dX6_land_91 zl_X6_127 zg_X6_readsStatement (zRc.of rfl rfl rfl) (s_X6_readsStatement (l := S.2.2.1) ((o2 10 (by omega)).trans h.2.2.1.1) hlt.1 (by rw [o1 57 (by omega) (by omega) (by omega) (by omega) (by omega) (by omega)]; exact h.2.2.1.2) hlt.2 (b := b) (by omega) hp) (fun v91 σ91 hq91 => ?_)
      obtain ⟨rfl, t1, t2, t3, t4⟩ := hq91
      have t3 := t3 hs
      have r91 : zro σ91 51 = r := (zro_congr (t1 51 (by omega) (by omega))).trans hr
      have z91 : zro σ91 54 = S.1 := (zro_congr (t1 54 (by omega) (by omega))).trans h54
      refine zw_istore5 hB dX6_land_94 (by first | rfl | assumption) ?_
      refine zw_aload0 hB dX6_land_96 ?_
      refine zw_iload4 hB dX6_land_97 ?_
      refine zw_callV1 (M' := mX6_isDone) hB dX6_land_99 zl_X6_134 zg_X6_isDone (zRc.of rfl rfl rfl) (s_X6_isDone (l := S.2.2.1) hs t3.2 (by rw [r91]; exact hrl)) (fun v99 σ99 hq99 => ?_)
      obtain ⟨rfl, u1, u2⟩ := hq99
      rw [r91] at u1 ⊢
      have o1x : ∀ c, c ≠ 50 → c ≠ 51 → c ≠ 54 → c ≠ 55 → c ≠ 56 → c ≠ 60 → σ99 c = σ c := fun c h1 h2 h3 h4 h5 h6 => (u2 c h2 h4 h5).trans ((t1 c h1 h6).trans (o1 c h1 h2 h3 h4 h5 h6))
      have o2x : ∀ i, i ≠ 12 → σ99 50 i = σ 50 i := fun i hi => (congrFun (u2 50 (by omega) (by omega) (by omega)) i).trans ((t2 i hi).trans (o2 i hi))
      have px : σ99 50 12 = nI (znx (zlc S.2.2.1) b) := (congrFun (u2 50 (by omega) (by omega) (by omega)) 12).trans t3.1
      have x54 : zro σ99 54 = S.1 := (zro_congr (u2 54 (by omega) (by omega) (by omega))).trans z91
      refine zw_if_eqB (tgt := 108) hB dX6_land_102 (by decide) (fun c102 => ?_) (fun c102 => ?_)
      · refine zw_sipush (x := -2000) hB dX6_land_108 (by decide) ?_
        refine zw_iload3 hB dX6_land_111 ?_
        refine zw_isub hB dX6_land_112 ?_
        refine zw_istore2 hB dX6_land_113 (by first | rfl | assumption) ?_
        refine zw_aload0 hB dX6_land_114 ?_
        refine zw_getfR hB dX6_land_115 zf_X6_19 rfl rfl ?_
        refine zw_aload0 hB dX6_land_118 ?_
        refine zw_getfR hB dX6_land_119 zf_X6_9 rfl rfl ?_
        refine zw_callS2 (M' := mX6_copies) hB dX6_land_122 zl_X6_130 zg_X6_copies (s_X6_copies (c := 54) (d := 51) rfl rfl (by decide)) (fun v122 σ122 hq122 => ?_)
        obtain ⟨rfl, w1, w2⟩ := hq122
        refine zw_goto (tgt := 62) hB dX6_land_125 (by decide) ?_
        have en : zdo (zlc S.2.2.1) b r = none := by
          cases e : zdo (zlc S.2.2.1) b r with
          | none => rfl
          | some q => rw [e] at c102; exact absurd rfl c102
        have e9 := zla_b hz (hx.trans (zxr_n en))
        exact hex1 _ _ _ _ _ _ (zm3 b (by omega)).2 (fun c h1 h2 h3 h4 h5 h6 => (w2 c h2).trans (o1x c h1 h2 h3 h4 h5 h6)) (fun i hi => (congrFun (w2 50 (by omega)) i).trans (o2x i hi)) (by rw [w1, x54]) (by rw [e9]) (by rw [e9])
      · obtain ⟨r2, er2⟩ := Option.isSome_iff_exists.mp c102
        have hr2 := u1 r2 er2
        refine zw_goto (tgt := 62) hB dX6_land_105 (by decide) ?_
        have hbx : b < znx (zlc S.2.2.1) b := by unfold znx; omega
        have hnx : znx (zlc S.2.2.1) b ≤ 104 := by
          have hz6 := zsh_lt (zlc S.2.2.1 b)
          have hln := zln_lt (zsh (zlc S.2.2.1 b)) (by omega)
          unfold znx; omega
        by_cases cn : znx (zlc S.2.2.1) b < S.2.2.1.length
        · exact ih _ _ _ _ _ (m + 1) _ cn (hpf.2 cn) (zdo_ok hrl hs er2) hr2 o1x o2x px x54 (by omega) (by rw [hx, zxr_s er2 cn])
        · have e9 := zxr_e (n := n) (m := m) er2 cn
          have hx9 := hx.trans e9
          exact hex2 _ _ _ _ _ _ (by omega) (by omega) o1x o2x hr2 px hx9
  have h46 : ∀ (υ : zSt) (a1 f2 : Int32) (a3 a4 a5 : Option Value), (∀ c, c ≠ 50 → c ≠ 60 → υ c = σ c) → (∀ i, i ≠ 12 → υ 50 i = σ 50 i) → ((∃ q, q ≤ S.2.2.1.length ∧ zpf (zlc S.2.2.1) S.2.2.1.length (S.2.2.1.length + 1) 0 = some q ∧ f2 = -1000 - nI q) ∨ (zpf (zlc S.2.2.1) S.2.2.1.length (S.2.2.1.length + 1) 0 = none ∧ a1 = nI (zpn (zlc S.2.2.1) S.2.2.1.length (S.2.2.1.length + 1) 0 0) ∧ f2 = -9)) → zW X 46 [some (.ref 50), some (.int a1), some (.int f2), a3, a4, a5] [] υ := by
    intro υ a1 f2 a3 a4 a5 o1 o2 hcase
    refine zw_aload0 hB dX6_land_46 ?_
    refine zw_getfR hB dX6_land_47 zf_X6_9 rfl rfl ?_
    refine zw_aload0 hB dX6_land_50 ?_
    refine zw_getfR hB dX6_land_51 zf_X6_19 rfl rfl ?_
    refine zw_callS2 (M' := mX6_copies) hB dX6_land_54 zl_X6_130 zg_X6_copies (s_X6_copies (c := 51) (d := 54) rfl rfl (by decide)) (fun v54 σ54 hq54 => ?_)
    obtain ⟨rfl, w1, w2⟩ := hq54
    refine zw_aload0 hB dX6_land_57 ?_
    refine zw_iconst (x := nI 0) hB dX6_land_58 (by decide) ?_
    refine zw_putfI hB dX6_land_59 zfw_X6_95 rfl rfl ?_
    have o1y : ∀ c, c ≠ 50 → c ≠ 51 → c ≠ 54 → c ≠ 55 → c ≠ 56 → c ≠ 60 → zC σ54 50 (upd (σ54 50) 12 (nI 0)) c = σ c := fun c h1 h2 h3 h4 h5 h6 => (zC_n h1).trans ((w2 c h3).trans (o1 c h1 h6))
    have o2y : ∀ i, i ≠ 12 → zC σ54 50 (upd (σ54 50) 12 (nI 0)) 50 i = σ 50 i := fun i hi => by rw [zC_s, zupd_o hi, w2 50 (by omega)]; exact o2 i hi
    have r51 : zro (zC σ54 50 (upd (σ54 50) 12 (nI 0))) 51 = S.1 := by rw [zro_n (by omega), zro_congr (w2 51 (by omega)), zro_congr (o1 51 (by omega) (by omega))]; exact hr0
    have r54 : zro (zC σ54 50 (upd (σ54 50) 12 (nI 0))) 54 = S.1 := by rw [zro_n (by omega), w1, zro_congr (o1 51 (by omega) (by omega))]; exact hr0
    rcases hcase with ⟨q, hq, hzq, rfl⟩ | ⟨hz, rfl, rfl⟩
    · have e9 := zla_f (r := S.1) hzq
      exact hex1 _ _ _ _ _ _ (zm3 q (by omega)).1 o1y o2y r51 (by rw [e9]) (by rw [e9])
    · rcases Nat.eq_zero_or_pos S.2.2.1.length with h0 | h0
      · exfalso
        have hz2 := (zpf_s hz).1
        unfold zsx at hz2
        rw [if_pos (by omega)] at hz2
        cases hz2
      · exact hl2 hz _ _ _ _ _ 0 0 S.1 h0 hz hS.1 r51 o1y o2y (by rw [zC_s, zupd_s]) r54 (Nat.le_refl _) rfl
  have hl1 : ∀ (a3 a4 a5 : Option Value) (n : Nat) (υ : zSt) (b m : Nat), (b < S.2.2.1.length ∨ b = 0) → S.2.2.1.length < n + b → (∀ c, c ≠ 50 → c ≠ 60 → υ c = σ c) → (∀ i, i ≠ 12 → υ 50 i = σ 50 i) → υ 50 12 = nI b → zpf (zlc S.2.2.1) S.2.2.1.length (S.2.2.1.length + 1) 0 = zpf (zlc S.2.2.1) S.2.2.1.length n b → zpn (zlc S.2.2.1) S.2.2.1.length (S.2.2.1.length + 1) 0 0 = zpn (zlc S.2.2.1) S.2.2.1.length n b m → zW X 10 [some (.ref 50), some (.int (nI m)), some (.int (-9)), a3, a4, a5] [] υ := by
    intro a3 a4 a5 n
    induction n with
    | zero =>
      intro υ b m hb hn
      exact absurd hn (by omega)
    | succ n ih =>
      intro υ b m hb hn o1 o2 hp hzp hzn
      refine zw_aload0 hB dX6_land_10 ?_
      refine zw_callV0 (M' := mX6_readsStatement) hB dX6_land_11 zl_X6_127 zg_X6_readsStatement (zRc.of rfl rfl rfl) (s_X6_readsStatement (l := S.2.2.1) ((o2 10 (by omega)).trans h.2.2.1.1) hlt.1 (by rw [o1 57 (by omega) (by omega)]; exact h.2.2.1.2) hlt.2 (b := b) (by omega) hp) (fun v11 σ11 hq11 => ?_)
      obtain ⟨rfl, t1, t2, t3, t4⟩ := hq11
      have o1x : ∀ c, c ≠ 50 → c ≠ 60 → σ11 c = σ c := fun c h1 h2 => (t1 c h1 h2).trans (o1 c h1 h2)
      have o2x : ∀ i, i ≠ 12 → σ11 50 i = σ 50 i := fun i hi => (t2 i hi).trans (o2 i hi)
      refine zw_if_neB (tgt := 26) hB dX6_land_14 (by decide) (fun c14 => ?_) (fun c14 => ?_)
      · have es : zsx (zlc S.2.2.1) S.2.2.1.length b = none := Option.isNone_iff_eq_none.mp c14
        have t3 := t3 es
        have hnx : znx (zlc S.2.2.1) b ≤ 104 := by
          have hz6 := zsh_lt (zlc S.2.2.1 b)
          have hln := zln_lt (zsh (zlc S.2.2.1 b)) (by omega)
          unfold znx; omega
        refine zw_iinc1 hB dX6_land_26 (by first | exact zinc _ | rfl) (by first | rfl | assumption) ?_
        refine zw_iload2 hB dX6_land_29 ?_
        refine zw_bipush (x := -9) hB dX6_land_30 (by decide) ?_
        refine zw_icmp_ne (tgt := 46) hB dX6_land_32 (by decide) (fun c32 => by first | exact absurd c32 (fun z => z rfl) | exact absurd (fun z => z rfl) c32 | omega) (fun c32 => ?_)
        refine zw_aload0 hB dX6_land_35 ?_
        refine zw_getfV (x := nI (znx (zlc S.2.2.1) b)) hB dX6_land_36 zf_X6_95 rfl rfl (t3.1) ?_
        refine zw_aload0 hB dX6_land_39 ?_
        refine zw_getfV (x := nI S.2.2.1.length) hB dX6_land_40 zf_X6_91 rfl rfl ((o2x 10 (by omega)).trans h.2.2.1.1) ?_
        refine zw_icmp_ltN (tgt := 10) hB dX6_land_43 (by decide) (by omega) (by omega) (fun c43 => ?_) (fun c43 => ?_)
        · exact ih _ _ _ (Or.inl c43) (by have hbx : b < znx (zlc S.2.2.1) b := (by unfold znx; omega); omega) o1x o2x t3.1 (hzp.trans (zpf_c es c43)) (hzn.trans (zpn_c c43))
        · exact h46 _ _ _ _ _ _ o1x o2x (Or.inr ⟨hzp.trans (zpf_e es (by omega)), congrArg nI (hzn.trans (zpn_e (by omega))).symm, rfl⟩)
      · obtain ⟨q, eq⟩ : ∃ q, zsx (zlc S.2.2.1) S.2.2.1.length b = some q := by
          cases e : zsx (zlc S.2.2.1) S.2.2.1.length b with
          | none => rw [e] at c14; exact absurd rfl c14
          | some q => exact ⟨q, rfl⟩
        have hq9 := t4 q eq
        have hzq : zpf (zlc S.2.2.1) S.2.2.1.length (S.2.2.1.length + 1) 0 = some q := hzp.trans (zpf_q eq)
        have hql : q ≤ S.2.2.1.length := zcm_le _ _ _ _ ((@zcm_0 (zlc S.2.2.1) S.2.2.1.length).trans hzq)
        refine zw_sipush (x := -1000) hB dX6_land_17 (by decide) ?_
        refine zw_aload0 hB dX6_land_20 ?_
        refine zw_getfV (x := nI q) hB dX6_land_21 zf_X6_95 rfl rfl (hq9) ?_
        refine zw_isub hB dX6_land_24 ?_
        refine zw_istore2 hB dX6_land_25 (by first | rfl | assumption) ?_
        refine zw_iinc1 hB dX6_land_26 (by first | exact zinc _ | rfl) (by first | rfl | assumption) ?_
        refine zw_iload2 hB dX6_land_29 ?_
        refine zw_bipush (x := -9) hB dX6_land_30 (by decide) ?_
        refine zw_icmp_ne (tgt := 46) hB dX6_land_32 (by decide) (fun c32 => ?_) (fun c32 => by first | exact absurd (zm3 q (by omega)).1 c32 | exact absurd c32 (zm3 q (by omega)).1 | omega)
        exact h46 _ _ _ _ _ _ o1x o2x (Or.inl ⟨q, hql, hzq, rfl⟩)
  refine zw_aload0 hB dX6_land_0 ?_
  refine zw_iconst (x := nI 0) hB dX6_land_1 (by decide) ?_
  refine zw_putfI hB dX6_land_2 zfw_X6_95 rfl rfl ?_
  refine zw_iconst (x := nI 0) hB dX6_land_5 (by decide) ?_
  refine zw_istore1 hB dX6_land_6 (by first | rfl | assumption) ?_
  refine zw_bipush (x := -9) hB dX6_land_7 (by decide) ?_
  refine zw_istore2 hB dX6_land_9 (by first | rfl | assumption) ?_
  exact hl1 _ _ _ (S.2.2.1.length + 1) _ 0 0 (Or.inr rfl) (by omega) (fun c h1 _ => zC_n h1) (fun i hi => by rw [zC_s]; exact zupd_o hi) (by rw [zC_s, zupd_s]) rfl rfl
