/-! THE CALLS, what they answer: land -/
abbrev zIn (x : Int32) (n : Nat) : Prop := ¬ x < 0 ∧ ¬ nI n ≤ x
theorem zIn_j {x : Int32} {n : Nat} (hn : n < 2 ^ 31) (h : zIn x n) : ∃ j, j < n ∧ x = nI j := by
  rcases zix x n hn with (q | q) | q
  · exact absurd q h.1
  · exact absurd q.2 h.2
  · exact q
theorem zIn_of {j n : Nat} (h : j < n) (hn : n < 2 ^ 31) : zIn (nI j) n := ⟨nI_pos (by omega), fun z => absurd ((nI_leI hn (by omega)).mp z) (by omega)⟩
theorem zfo_0 {a b c : Int32} (h : zfo a b c = 0) : a = 0 ∧ b = 0 ∧ c = 0 := by
  unfold zfo at h
  by_cases ha : a = 0
  · rw [if_pos ha] at h
    by_cases hb : b = 0
    · rw [if_pos hb] at h; exact ⟨ha, hb, h⟩
    · rw [if_neg hb] at h; exact absurd h hb
  · rw [if_neg ha] at h; exact absurd h ha
theorem znb_0 {c : Prop} [Decidable c] (h : znb c = 0) : c := by
  unfold znb at h
  by_cases hc : c
  · exact hc
  · rw [if_neg hc] at h; exact absurd h (by decide)
theorem zrO_0 {c : Prop} [Decidable c] (h : zrO c = 0) : c := by
  unfold zrO at h
  by_cases hc : c
  · exact hc
  · rw [if_neg hc] at h; exact absurd h (by decide)
theorem zou_0 {w : Int32} {m : Nat} (hm : m < 2 ^ 30) (h : zou w (nI m) = 0) : ∃ j, j ≤ m ∧ w = nI j := by
  unfold zou at h
  by_cases hc : ¬ w < 0 ∧ ¬ nI m < w
  · obtain ⟨j, hj, rfl⟩ := nI_of hc.1
    exact ⟨j, Nat.le_of_not_lt fun z => hc.2 (nI_lt z hj), rfl⟩
  · rw [if_neg hc] at h; exact absurd h (by decide)
theorem zir_0 {v : Int32} {a m : Nat} (ha : a < 2 ^ 30) (hm : m < 2 ^ 30) (h : zir v (nI a) (nI m) = 0) : ∃ j, a ≤ j ∧ j ≤ m ∧ v = nI j := by
  unfold zir at h
  by_cases h1 : v < nI a
  · rw [if_pos h1] at h; exact absurd h (by decide)
  · rw [if_neg h1] at h
    by_cases h2 : nI m < v
    · rw [if_pos h2] at h; exact absurd h (by decide)
    · have h0 : ¬ v < 0 := by
        intro z
        refine h1 (Int32.lt_iff_toInt_lt.mpr ?_)
        have h3 := Int32.lt_iff_toInt_lt.mp z
        have e0 : (0 : Int32).toInt = 0 := by decide
        have e1 : (nI a).toInt = a := nI_toInt (by omega)
        omega
      obtain ⟨j, hj, rfl⟩ := nI_of h0
      refine ⟨j, Nat.le_of_not_lt fun z => h1 (nI_lt z (by omega)), Nat.le_of_not_lt fun z => h2 (nI_lt z hj), rfl⟩
theorem zCQ.ok {S : zS} {σ τ : zSt} {e : Int32} {v v' : Value} (h : zCW S σ) (he : e = 0) (hv : v = v') (k : ∀ c, (c ≤ 16 ∨ c = 25 ∨ c = 26 ∨ 48 ≤ c) → τ c = σ c) : zCQ (zq S e (v', S)) σ (some v) τ := by
  subst hv
  exact zCQ.same h he k
theorem zRQ.ok {S : zS} {σ τ : zSt} {e : Int32} {v v' : Value} (h : zRW S σ) (he : e = 0) (hv : v = v') (k0 : τ 50 6 = σ 50 6 ∧ τ 50 10 = σ 50 10 ∧ τ 50 11 = σ 50 11) (k : ∀ c, (c < 50 ∨ c = 51 ∨ c = 53 ∨ c = 57 ∨ c = 58 ∨ c = 59) → τ c = σ c) : zRQ (zq S e (v', S)) σ (some v) τ := by
  subst hv
  exact zRQ.same h he k0 k
theorem s_hasFarm {n : Nat} {σ : zSt} {b F : Nat} (hb : zLd b) (hF : σ b 0 = nI F) (f : Int32) : zSem n mX1_hasFarm [.ref b, .int f] σ (zP σ (.int (zb (zIn f F)))) := by
  have := s_X1_hasFarm (n := n) (σ := σ) hb f
  rw [hF] at this
  exact this
theorem s_hasFarmer {n : Nat} {σ : zSt} {b P : Nat} (hb : zLd b) (hP : σ b 1 = nI P) (f : Int32) : zSem n mX1_hasFarmer [.ref b, .int f] σ (zP σ (.int (zb (zIn f P)))) := by
  have := s_X1_hasFarmer (n := n) (σ := σ) hb f
  rw [hP] at this
  exact this
def zfr1 (S : zS) (r : zRw) : zS := (r, S.2)
def w_farm (F : Nat) (f w : Int32) : Int32 := zfo (znb (zIn f F)) (zou w (nI 4)) (nI 0)
def a_farm (r : zRw) (P : Nat) (f w : Int32) : Int32 := if w = nI 3 then zgn r f.toNatClampNeg else if w = nI 4 then zten r f 0 P else r (5 + 3 * f.toNatClampNeg + w.toNatClampNeg)
def q_farm (S : zS) (f w : Int32) : Value × zS := zq S (w_farm (zNF S.1) f w) (.int (a_farm S.1 (zNP S.1) f w), S)
def w_farmer (P : Nat) (p w : Int32) : Int32 := zfo (znb (zIn p P)) (zou w (nI 5)) (nI 0)
def a_farmer (r : zRw) (p w : Int32) : Int32 := if w = nI 0 then r (23 + 4 * p.toNatClampNeg) else if w = nI 1 then r (24 + 4 * p.toNatClampNeg) else if w = nI 2 then r (25 + 4 * p.toNatClampNeg) else if w = nI 3 then r (26 + 4 * p.toNatClampNeg) else if w = nI 4 then zgb r p.toNatClampNeg (zat r p.toNatClampNeg) else ztr (zkd r p.toNatClampNeg)
def q_farmer (S : zS) (p w : Int32) : Value × zS := zq S (w_farmer (zNP S.1) p w) (.int (a_farmer S.1 p w), S)
def q_sits (S : zS) (p f : Int32) : Value × zS := zq S (znb (zIn p (zNP S.1) ∧ zIn f (zNF S.1))) (.int (zten S.1 f 0 (zNP S.1)), (zSt1 S.1 p.toNatClampNeg f.toNatClampNeg, S.2))
def w_leaves (r : zRw) (P : Nat) (p : Int32) : Int32 := if zIn p P then (if zat r p.toNatClampNeg = -9 then -3 else nI 0) else -1
def q_leaves (S : zS) (p : Int32) : Value × zS := zq S (w_leaves S.1 (zNP S.1) p) (.int (zat S.1 p.toNatClampNeg), (upd S.1 (26 + 4 * p.toNatClampNeg) (-9), S.2))
def w_hearts (F : Nat) (f s v : Int32) : Int32 := zfo (znb (zIn f F ∧ zIn s 3)) (zir v (nI 0) (nI 30)) (nI 0)
def q_hearts (S : zS) (f s v : Int32) : Value × zS := zq S (w_hearts (zNF S.1) f s v) (.int (S.1 (5 + 3 * f.toNatClampNeg + s.toNatClampNeg)), (upd S.1 (5 + 3 * f.toNatClampNeg + s.toNatClampNeg) v, S.2))
def q_steps (S : zS) (v : Int32) : Value × zS := zq S (zir v (nI 0) (nI 5)) (.int (S.1 2), (upd S.1 2 v, S.2))
def q_tires (S : zS) (p v : Int32) : Value × zS := zq S (zfo (znb (zIn p (zNP S.1))) (zir v (nI 0) (nI 20)) (nI 0)) (.int (S.1 (25 + 4 * p.toNatClampNeg)), (upd S.1 (25 + 4 * p.toNatClampNeg) v, S.2))
def q_turn (S : zS) (p k g : Int32) : Value × zS := zq S (zfo (znb (zIn p (zNP S.1))) (zou k (nI 5)) (zir g (nI 0) (nI 9))) (.int (nI 10 * S.1 (23 + 4 * p.toNatClampNeg) + S.1 (24 + 4 * p.toNatClampNeg)), (upd (upd S.1 (23 + 4 * p.toNatClampNeg) k) (24 + 4 * p.toNatClampNeg) g, S.2))
def q_years (S : zS) (m : Int32) : Value × zS := zq S (zfo (zir m (nI 1) (nI 60)) (zrO (m ≤ nI 999 - S.1 4)) (nI 0)) (.int (zYs S.1 m.toNatClampNeg 3), (zYs S.1 m.toNatClampNeg, S.2))
def q_heartThen (S : zS) (f s m : Int32) : Value × zS := zq S (zfo (znb (zIn f (zNF S.1) ∧ zIn s 3)) (zir m (nI 0) (nI 60)) (nI 0)) (.int (zYs S.1 m.toNatClampNeg (5 + 3 * f.toNatClampNeg + s.toNatClampNeg)), S)
def q_farmerThen (S : zS) (p m w : Int32) : Value × zS := zq S (zfo (znb (zIn p (zNP S.1))) (zir m (nI 0) (nI 60)) (zou w (nI 1))) (.int (if w = nI 0 then zYs S.1 m.toNatClampNeg (25 + 4 * p.toNatClampNeg) else zYs S.1 m.toNatClampNeg (26 + 4 * p.toNatClampNeg)), S)
def q_barnThen (S : zS) (m : Int32) : Value × zS := zq S (zir m (nI 0) (nI 60)) (.int (zYs S.1 m.toNatClampNeg 3), S)
def q_greenest (S : zS) : Value × zS := (.int (zopt (zgst (zgn S.1) (zNF S.1))), S)

theorem s_X5_farm {n : Nat} {σ : zSt} {S : zS} (hS : zOk S) (h : zCW S σ) (f w : Int32) : zSem (n + 2) mX5_farm [.ref 0, .int f, .int w] σ (zCQ (q_farm S f w) σ) := by
  obtain ⟨⟨⟨F, P, hg0⟩, y0, hy0, ey0⟩, hkp, hlt, hrw⟩ := id hS
  have hnF := hg0.nF
  have hnP := hg0.nP
  have hr0 := h.1
  have hg : zGd (zrow σ 1) F P := by rw [hr0]; exact hg0
  have hF6 := hg.F6
  have hP6 := hg.P6
  have hF : σ 1 0 = nI F := hg.r0
  have hP : σ 1 1 = nI P := hg.r1
  unfold q_farm
  try rw [hnF]
  try rw [hnP]
  refine zSem.of (by decide +kernel) (Nat.le_of_ble_eq_true rfl) (fun X hB hR => ?_)
  show zW X 0 [some (.ref 0), some (.int f), some (.int w), none] [] σ
  refine zw_aload0 hB dX5_farm_0 ?_
  refine zw_getfR hB dX5_farm_1 zf_X5_10 rfl rfl ?_
  refine zw_iload1 hB dX5_farm_4 ?_
  refine zw_callV1P (M' := mX1_hasFarm) hB dX5_farm_5 zl_X5_78 zg_X1_hasFarm (zRc.of zld1.1 rfl rfl) (s_hasFarm zld1 hF _) ?_
  refine zw_callS1P (M' := mX5_nobodyUnless) hB dX5_farm_8 zl_X5_82 zg_X5_nobodyUnless (s_X5_nobodyUnless) ?_
  refine zw_iload2 hB dX5_farm_11 ?_
  refine zw_iconst (x := nI 4) hB dX5_farm_12 (by decide) ?_
  refine zw_callS2P (M' := mX5_otherUnless) hB dX5_farm_13 zl_X5_85 zg_X5_otherUnless (s_X5_otherUnless _ _) ?_
  refine zw_iconst (x := nI 0) hB dX5_farm_16 (by decide) ?_
  refine zw_callS3P (M' := mX5_firstOf) hB dX5_farm_17 zl_X5_55 zg_X5_firstOf (s_X5_firstOf _ _ _) ?_
  refine zw_istore3 hB dX5_farm_20 rfl ?_
  refine zw_iload3 hB dX5_farm_21 ?_
  refine zw_if_eq (tgt := 31) hB dX5_farm_22 (by decide) (fun c22 => ?_) (fun c22 => ?_)
  · obtain ⟨e1, e2, -⟩ := zfo_0 c22
    obtain ⟨j, hj, rfl⟩ := zIn_j (by omega) (znb_0 e1)
    obtain ⟨i, hi, rfl⟩ := zou_0 (by omega) e2
    refine zw_iload2 hB dX5_farm_31 ?_
    refine zw_iconst (x := nI 3) hB dX5_farm_32 (by decide) ?_
    refine zw_icmp_neN (tgt := 45) hB dX5_farm_33 (by decide) (by omega) (by omega) (fun c33 => ?_) (fun c33 => ?_)
    · refine zw_iload2 hB dX5_farm_45 ?_
      refine zw_iconst (x := nI 4) hB dX5_farm_46 (by decide) ?_
      refine zw_icmp_neN (tgt := 61) hB dX5_farm_47 (by decide) (by omega) (by omega) (fun c47 => ?_) (fun c47 => ?_)
      · refine zw_aload0 hB dX5_farm_61 ?_
        refine zw_getfR hB dX5_farm_62 zf_X5_10 rfl rfl ?_
        refine zw_iload1 hB dX5_farm_65 ?_
        refine zw_iload2 hB dX5_farm_66 ?_
        refine zw_callV2P (M' := mX1_heartOf) hB dX5_farm_67 zl_X5_95 zg_X1_heartOf (zRc.of zld1.1 rfl rfl) (s_X1_heartOf zld1 (by omega) (by omega)) ?_
        refine zw_iret hB hR dX5_farm_70 rfl ?_
        refine zCQ.ok h c22 ?_ (fun _ _ => rfl)
        unfold a_farm
        rw [if_neg (fun z => c33 ((nI_eq (by omega) (by omega)).mp z)), if_neg (fun z => c47 ((nI_eq (by omega) (by omega)).mp z)), nI_clamp (by omega), nI_clamp (by omega), ← hr0, zrow_hs (by omega) (by omega)]
      · refine zw_aload0 hB dX5_farm_50 ?_
        refine zw_getfR hB dX5_farm_51 zf_X5_10 rfl rfl ?_
        refine zw_iload1 hB dX5_farm_54 ?_
        refine zw_callV1P (M' := mX1_tenantOf) hB dX5_farm_55 zl_X5_92 zg_X1_tenantOf (zRc.of zld1.1 rfl rfl) (s_X1_tenantOf zld1 hg _) ?_
        refine zw_goto (tgt := 70) hB dX5_farm_58 (by decide) ?_
        refine zw_iret hB hR dX5_farm_70 rfl ?_
        refine zCQ.ok h c22 ?_ (fun _ _ => rfl)
        unfold a_farm
        rw [if_neg (fun z => c33 ((nI_eq (by omega) (by omega)).mp z)), if_pos (by rw [c47]), ← hr0]
    · refine zw_aload0 hB dX5_farm_36 ?_
      refine zw_getfR hB dX5_farm_37 zf_X5_10 rfl rfl ?_
      refine zw_iload1 hB dX5_farm_40 ?_
      refine zw_callV1P (M' := mX1_greenOf) hB dX5_farm_41 zl_X5_89 zg_X1_greenOf (zRc.of zld1.1 rfl rfl) (s_X1_greenOf zld1 (by omega)) ?_
      refine zw_iret hB hR dX5_farm_44 rfl ?_
      refine zCQ.ok h c22 ?_ (fun _ _ => rfl)
      unfold a_farm
      rw [if_pos (by rw [c33]), nI_clamp (by omega), ← hr0]
  · obtain ⟨k, hk, hc⟩ := (zcd_fo zcd_nb zcd_ou zcd_0).resolve_left c22
    refine zw_aload0 hB dX5_farm_25 ?_
    refine zw_iload3 hB dX5_farm_26 ?_
    refine zw_callV1 (M' := mX5_refuse) hB dX5_farm_27 zl_X5_58 zg_X5_refuse (zRc.of rfl rfl rfl) (s_X5_refuse _ hc hk) (fun v27 σ27 hq27 => ?_)
    obtain ⟨rfl, rfl⟩ := hq27
    refine zw_iret hB hR dX5_farm_30 rfl ?_
    exact zCQ.no h c22 hk hc
theorem s_X5_farmer {n : Nat} {σ : zSt} {S : zS} (hS : zOk S) (h : zCW S σ) (p w : Int32) : zSem (n + 3) mX5_farmer [.ref 0, .int p, .int w] σ (zCQ (q_farmer S p w) σ) := by
  obtain ⟨⟨⟨F, P, hg0⟩, y0, hy0, ey0⟩, hkp, hlt, hrw⟩ := id hS
  have hnF := hg0.nF
  have hnP := hg0.nP
  have hr0 := h.1
  have hg : zGd (zrow σ 1) F P := by rw [hr0]; exact hg0
  have hF6 := hg.F6
  have hP6 := hg.P6
  have hF : σ 1 0 = nI F := hg.r0
  have hP : σ 1 1 = nI P := hg.r1
  unfold q_farmer
  try rw [hnF]
  try rw [hnP]
  refine zSem.of (by decide +kernel) (Nat.le_of_ble_eq_true rfl) (fun X hB hR => ?_)
  show zW X 0 [some (.ref 0), some (.int p), some (.int w), none] [] σ
  refine zw_aload0 hB dX5_farmer_0 ?_
  refine zw_getfR hB dX5_farmer_1 zf_X5_10 rfl rfl ?_
  refine zw_iload1 hB dX5_farmer_4 ?_
  refine zw_callV1P (M' := mX1_hasFarmer) hB dX5_farmer_5 zl_X5_98 zg_X1_hasFarmer (zRc.of zld1.1 rfl rfl) (s_hasFarmer zld1 hP _) ?_
  refine zw_callS1P (M' := mX5_nobodyUnless) hB dX5_farmer_8 zl_X5_82 zg_X5_nobodyUnless (s_X5_nobodyUnless) ?_
  refine zw_iload2 hB dX5_farmer_11 ?_
  refine zw_iconst (x := nI 5) hB dX5_farmer_12 (by decide) ?_
  refine zw_callS2P (M' := mX5_otherUnless) hB dX5_farmer_13 zl_X5_85 zg_X5_otherUnless (s_X5_otherUnless _ _) ?_
  refine zw_iconst (x := nI 0) hB dX5_farmer_16 (by decide) ?_
  refine zw_callS3P (M' := mX5_firstOf) hB dX5_farmer_17 zl_X5_55 zg_X5_firstOf (s_X5_firstOf _ _ _) ?_
  refine zw_istore3 hB dX5_farmer_20 rfl ?_
  refine zw_iload3 hB dX5_farmer_21 ?_
  refine zw_if_eq (tgt := 31) hB dX5_farmer_22 (by decide) (fun c22 => ?_) (fun c22 => ?_)
  · obtain ⟨e1, e2, -⟩ := zfo_0 c22
    obtain ⟨j, hj, rfl⟩ := zIn_j (by omega) (znb_0 e1)
    obtain ⟨i, hi, rfl⟩ := zou_0 (by omega) e2
    refine zw_iload2 hB dX5_farmer_31 ?_
    have h6 : i = 0 ∨ i = 1 ∨ i = 2 ∨ i = 3 ∨ i = 4 ∨ i = 5 := by omega
    rcases h6 with rfl | rfl | rfl | rfl | rfl | rfl
    · refine zw_tabIn (off := 36) (tgt := 68) hB dX5_farmer_32 (by decide) (by decide) (by decide) (by decide) ?_
      refine zw_aload0 hB dX5_farmer_68 ?_
      refine zw_getfR hB dX5_farmer_69 zf_X5_10 rfl rfl ?_
      refine zw_getfR hB dX5_farmer_72 zf_X5_101 zld1.1 rfl ?_
      refine zw_iload1 hB dX5_farmer_75 ?_
      refine zw_ialdN hB dX5_farmer_76 zld1.2.2.2.1 (by omega) (by decide) ?_
      refine zw_iret hB hR dX5_farmer_77 rfl ?_
      refine zCQ.ok h c22 ?_ (fun _ _ => rfl)
      unfold a_farmer
      rw [if_pos rfl, nI_clamp (by omega), ← hr0]
      rw [← zrow_kd (by omega)]
    · refine zw_tabIn (off := 46) (tgt := 78) hB dX5_farmer_32 (by decide) (by decide) (by decide) (by decide) ?_
      refine zw_aload0 hB dX5_farmer_78 ?_
      refine zw_getfR hB dX5_farmer_79 zf_X5_10 rfl rfl ?_
      refine zw_getfR hB dX5_farmer_82 zf_X5_104 zld1.1 rfl ?_
      refine zw_iload1 hB dX5_farmer_85 ?_
      refine zw_ialdN hB dX5_farmer_86 zld1.2.2.2.2.1 (by omega) (by decide) ?_
      refine zw_iret hB hR dX5_farmer_87 rfl ?_
      refine zCQ.ok h c22 ?_ (fun _ _ => rfl)
      unfold a_farmer
      rw [if_neg (by decide), if_pos rfl, nI_clamp (by omega), ← hr0]
      rw [← zrow_fg (by omega)]
    · refine zw_tabIn (off := 56) (tgt := 88) hB dX5_farmer_32 (by decide) (by decide) (by decide) (by decide) ?_
      refine zw_aload0 hB dX5_farmer_88 ?_
      refine zw_getfR hB dX5_farmer_89 zf_X5_10 rfl rfl ?_
      refine zw_getfR hB dX5_farmer_92 zf_X5_107 zld1.1 rfl ?_
      refine zw_iload1 hB dX5_farmer_95 ?_
      refine zw_ialdN hB dX5_farmer_96 zld1.2.2.2.2.2.1 (by omega) (by decide) ?_
      refine zw_iret hB hR dX5_farmer_97 rfl ?_
      refine zCQ.ok h c22 ?_ (fun _ _ => rfl)
      unfold a_farmer
      rw [if_neg (by decide), if_neg (by decide), if_pos rfl, nI_clamp (by omega), ← hr0]
      exact congrArg (fun z => Value.int z) (zrow_td (by omega))
    · refine zw_tabIn (off := 66) (tgt := 98) hB dX5_farmer_32 (by decide) (by decide) (by decide) (by decide) ?_
      refine zw_aload0 hB dX5_farmer_98 ?_
      refine zw_getfR hB dX5_farmer_99 zf_X5_10 rfl rfl ?_
      refine zw_getfR hB dX5_farmer_102 zf_X5_110 zld1.1 rfl ?_
      refine zw_iload1 hB dX5_farmer_105 ?_
      refine zw_ialdN hB dX5_farmer_106 zld1.2.2.2.2.2.2.1 (by omega) (by decide) ?_
      refine zw_iret hB hR dX5_farmer_107 rfl ?_
      refine zCQ.ok h c22 ?_ (fun _ _ => rfl)
      unfold a_farmer
      rw [if_neg (by decide), if_neg (by decide), if_neg (by decide), if_pos rfl, nI_clamp (by omega), ← hr0]
      exact congrArg (fun z => Value.int z) (zrow_at (by omega))
    · refine zw_tabIn (off := 76) (tgt := 108) hB dX5_farmer_32 (by decide) (by decide) (by decide) (by decide) ?_
      refine zw_aload0 hB dX5_farmer_108 ?_
      refine zw_getfR hB dX5_farmer_109 zf_X5_10 rfl rfl ?_
      refine zw_iload1 hB dX5_farmer_112 ?_
      refine zw_callV1P (M' := mX1_grownNow) hB dX5_farmer_113 zl_X5_113 zg_X1_grownNow (zRc.of zld1.1 rfl rfl) (s_X1_grownNow zld1 hg hj) ?_
      refine zw_iret hB hR dX5_farmer_116 rfl ?_
      refine zCQ.ok h c22 ?_ (fun _ _ => rfl)
      unfold a_farmer
      rw [if_neg (by decide), if_neg (by decide), if_neg (by decide), if_neg (by decide), if_pos rfl, nI_clamp (by omega), ← hr0]
    · refine zw_tabOut (tgt := 117) hB dX5_farmer_32 (by decide) (by decide) ?_
      refine zw_aload0 hB dX5_farmer_117 ?_
      refine zw_getfR hB dX5_farmer_118 zf_X5_10 rfl rfl ?_
      refine zw_getfR hB dX5_farmer_121 zf_X5_101 zld1.1 rfl ?_
      refine zw_iload1 hB dX5_farmer_124 ?_
      refine zw_ialdV (x := nI (zkd (zrow σ 1) j)) hB dX5_farmer_125 zld1.2.2.2.1 (by omega) (by decide) ((zrow_kd (by omega)).trans (hg.kd hj).1) ?_
      refine zw_callS1P (M' := mX0_tiring) hB dX5_farmer_126 zl_X5_116 zg_X0_tiring (s_X0_tiring (hg.kd hj).2) ?_
      refine zw_iret hB hR dX5_farmer_129 rfl ?_
      refine zCQ.ok h c22 ?_ (fun _ _ => rfl)
      unfold a_farmer
      rw [if_neg (by decide), if_neg (by decide), if_neg (by decide), if_neg (by decide), if_neg (by decide), nI_clamp (by omega), ← hr0]
  · obtain ⟨k, hk, hc⟩ := (zcd_fo zcd_nb zcd_ou zcd_0).resolve_left c22
    refine zw_aload0 hB dX5_farmer_25 ?_
    refine zw_iload3 hB dX5_farmer_26 ?_
    refine zw_callV1 (M' := mX5_refuse) hB dX5_farmer_27 zl_X5_58 zg_X5_refuse (zRc.of rfl rfl rfl) (s_X5_refuse _ hc hk) (fun v27 σ27 hq27 => ?_)
    obtain ⟨rfl, rfl⟩ := hq27
    refine zw_iret hB hR dX5_farmer_30 rfl ?_
    exact zCQ.no h c22 hk hc
theorem s_X5_sits {n : Nat} {σ : zSt} {S : zS} (hS : zOk S) (h : zCW S σ) (p f : Int32) : zSem (n + 3) mX5_sits [.ref 0, .int p, .int f] σ (zCQ (q_sits S p f) σ) := by
  obtain ⟨⟨⟨F, P, hg0⟩, y0, hy0, ey0⟩, hkp, hlt, hrw⟩ := id hS
  have hnF := hg0.nF
  have hnP := hg0.nP
  have hr0 := h.1
  have hg : zGd (zrow σ 1) F P := by rw [hr0]; exact hg0
  have hF6 := hg.F6
  have hP6 := hg.P6
  have hF : σ 1 0 = nI F := hg.r0
  have hP : σ 1 1 = nI P := hg.r1
  unfold q_sits
  try rw [hnF]
  try rw [hnP]
  refine zSem.of (by decide +kernel) (Nat.le_of_ble_eq_true rfl) (fun X hB hR => ?_)
  show zW X 0 [some (.ref 0), some (.int p), some (.int f), none, none] [] σ
  refine zw_aload0 hB dX5_sits_0 ?_
  refine zw_getfR hB dX5_sits_1 zf_X5_10 rfl rfl ?_
  refine zw_iload1 hB dX5_sits_4 ?_
  refine zw_callV1P (M' := mX1_hasFarmer) hB dX5_sits_5 zl_X5_98 zg_X1_hasFarmer (zRc.of zld1.1 rfl rfl) (s_hasFarmer zld1 hP _) ?_
  refine zw_if_eqB (tgt := 26) hB dX5_sits_8 (by decide) (fun c8 => ?_) (fun c8 => ?_)
  · refine zw_iconst (x := nI 0) hB dX5_sits_26 (by decide) ?_
    refine zw_eqI (y := zb (zIn p P ∧ zIn f F)) (zb_f (fun z => c8 z.1)).symm ?_
    refine zw_callS1P (M' := mX5_nobodyUnless) hB dX5_sits_27 zl_X5_82 zg_X5_nobodyUnless (s_X5_nobodyUnless) ?_
    refine zw_istore3 hB dX5_sits_30 rfl ?_
    refine zw_iload3 hB dX5_sits_31 ?_
    refine zw_if_eq (tgt := 41) hB dX5_sits_32 (by decide) (fun c32 => ?_) (fun c32 => ?_)
    · obtain ⟨z1, z2⟩ := znb_0 c32
      obtain ⟨j, hj, rfl⟩ := zIn_j (by omega) z1
      obtain ⟨i, hi, rfl⟩ := zIn_j (by omega) z2
      refine zw_aload0 hB dX5_sits_41 ?_
      refine zw_getfR hB dX5_sits_42 zf_X5_10 rfl rfl ?_
      refine zw_iload2 hB dX5_sits_45 ?_
      refine zw_callV1P (M' := mX1_tenantOf) hB dX5_sits_46 zl_X5_92 zg_X1_tenantOf (zRc.of zld1.1 rfl rfl) (s_X1_tenantOf zld1 hg _) ?_
      refine zw_istore4 hB dX5_sits_49 rfl ?_
      refine zw_aload0 hB dX5_sits_51 ?_
      refine zw_getfR hB dX5_sits_52 zf_X5_10 rfl rfl ?_
      refine zw_iload1 hB dX5_sits_55 ?_
      refine zw_iload2 hB dX5_sits_56 ?_
      refine zw_callV2 (M' := mX1_seat) hB dX5_sits_57 zl_X5_121 zg_X1_seat (zRc.of zld1.1 rfl rfl) (s_X1_seat zld1 hg hj hi) (fun v57 σ57 hq57 => ?_)
      obtain ⟨rfl, x1, x2⟩ := hq57
      refine zw_iload4 hB dX5_sits_60 ?_
      refine zw_iret hB hR dX5_sits_62 rfl ?_
      rw [zq_t c32]
      refine ⟨by rw [hr0], h.land ?_ (fun c hc => x2 c (by omega)), fun c hc => x2 c (by omega)⟩
      rw [x1, hr0, nI_clamp (by omega), nI_clamp (by omega)]
    · obtain ⟨k, hk, hc⟩ := (zcd_nb).resolve_left c32
      refine zw_aload0 hB dX5_sits_35 ?_
      refine zw_iload3 hB dX5_sits_36 ?_
      refine zw_callV1 (M' := mX5_refuse) hB dX5_sits_37 zl_X5_58 zg_X5_refuse (zRc.of rfl rfl rfl) (s_X5_refuse _ hc hk) (fun v37 σ37 hq37 => ?_)
      obtain ⟨rfl, rfl⟩ := hq37
      refine zw_iret hB hR dX5_sits_40 rfl ?_
      exact zCQ.no h c32 hk hc
  · refine zw_aload0 hB dX5_sits_11 ?_
    refine zw_getfR hB dX5_sits_12 zf_X5_10 rfl rfl ?_
    refine zw_iload2 hB dX5_sits_15 ?_
    refine zw_callV1P (M' := mX1_hasFarm) hB dX5_sits_16 zl_X5_78 zg_X1_hasFarm (zRc.of zld1.1 rfl rfl) (s_hasFarm zld1 hF _) ?_
    refine zw_if_eqB (tgt := 26) hB dX5_sits_19 (by decide) (fun c19 => ?_) (fun c19 => ?_)
    · refine zw_iconst (x := nI 0) hB dX5_sits_26 (by decide) ?_
      refine zw_eqI (y := zb (zIn p P ∧ zIn f F)) (zb_f (fun z => c19 z.2)).symm ?_
      refine zw_callS1P (M' := mX5_nobodyUnless) hB dX5_sits_27 zl_X5_82 zg_X5_nobodyUnless (s_X5_nobodyUnless) ?_
      refine zw_istore3 hB dX5_sits_30 rfl ?_
      refine zw_iload3 hB dX5_sits_31 ?_
      refine zw_if_eq (tgt := 41) hB dX5_sits_32 (by decide) (fun c32 => ?_) (fun c32 => ?_)
      · obtain ⟨z1, z2⟩ := znb_0 c32
        obtain ⟨j, hj, rfl⟩ := zIn_j (by omega) z1
        obtain ⟨i, hi, rfl⟩ := zIn_j (by omega) z2
        refine zw_aload0 hB dX5_sits_41 ?_
        refine zw_getfR hB dX5_sits_42 zf_X5_10 rfl rfl ?_
        refine zw_iload2 hB dX5_sits_45 ?_
        refine zw_callV1P (M' := mX1_tenantOf) hB dX5_sits_46 zl_X5_92 zg_X1_tenantOf (zRc.of zld1.1 rfl rfl) (s_X1_tenantOf zld1 hg _) ?_
        refine zw_istore4 hB dX5_sits_49 rfl ?_
        refine zw_aload0 hB dX5_sits_51 ?_
        refine zw_getfR hB dX5_sits_52 zf_X5_10 rfl rfl ?_
        refine zw_iload1 hB dX5_sits_55 ?_
        refine zw_iload2 hB dX5_sits_56 ?_
        refine zw_callV2 (M' := mX1_seat) hB dX5_sits_57 zl_X5_121 zg_X1_seat (zRc.of zld1.1 rfl rfl) (s_X1_seat zld1 hg hj hi) (fun v57 σ57 hq57 => ?_)
        obtain ⟨rfl, x1, x2⟩ := hq57
        refine zw_iload4 hB dX5_sits_60 ?_
        refine zw_iret hB hR dX5_sits_62 rfl ?_
        rw [zq_t c32]
        refine ⟨by rw [hr0], h.land ?_ (fun c hc => x2 c (by omega)), fun c hc => x2 c (by omega)⟩
        rw [x1, hr0, nI_clamp (by omega), nI_clamp (by omega)]
      · obtain ⟨k, hk, hc⟩ := (zcd_nb).resolve_left c32
        refine zw_aload0 hB dX5_sits_35 ?_
        refine zw_iload3 hB dX5_sits_36 ?_
        refine zw_callV1 (M' := mX5_refuse) hB dX5_sits_37 zl_X5_58 zg_X5_refuse (zRc.of rfl rfl rfl) (s_X5_refuse _ hc hk) (fun v37 σ37 hq37 => ?_)
        obtain ⟨rfl, rfl⟩ := hq37
        refine zw_iret hB hR dX5_sits_40 rfl ?_
        exact zCQ.no h c32 hk hc
    · refine zw_iconst (x := nI 1) hB dX5_sits_22 (by decide) ?_
      refine zw_goto (tgt := 27) hB dX5_sits_23 (by decide) ?_
      refine zw_eqI (y := zb (zIn p P ∧ zIn f F)) (zb_t ⟨c8, c19⟩).symm ?_
      refine zw_callS1P (M' := mX5_nobodyUnless) hB dX5_sits_27 zl_X5_82 zg_X5_nobodyUnless (s_X5_nobodyUnless) ?_
      refine zw_istore3 hB dX5_sits_30 rfl ?_
      refine zw_iload3 hB dX5_sits_31 ?_
      refine zw_if_eq (tgt := 41) hB dX5_sits_32 (by decide) (fun c32 => ?_) (fun c32 => ?_)
      · obtain ⟨z1, z2⟩ := znb_0 c32
        obtain ⟨j, hj, rfl⟩ := zIn_j (by omega) z1
        obtain ⟨i, hi, rfl⟩ := zIn_j (by omega) z2
        refine zw_aload0 hB dX5_sits_41 ?_
        refine zw_getfR hB dX5_sits_42 zf_X5_10 rfl rfl ?_
        refine zw_iload2 hB dX5_sits_45 ?_
        refine zw_callV1P (M' := mX1_tenantOf) hB dX5_sits_46 zl_X5_92 zg_X1_tenantOf (zRc.of zld1.1 rfl rfl) (s_X1_tenantOf zld1 hg _) ?_
        refine zw_istore4 hB dX5_sits_49 rfl ?_
        refine zw_aload0 hB dX5_sits_51 ?_
        refine zw_getfR hB dX5_sits_52 zf_X5_10 rfl rfl ?_
        refine zw_iload1 hB dX5_sits_55 ?_
        refine zw_iload2 hB dX5_sits_56 ?_
        refine zw_callV2 (M' := mX1_seat) hB dX5_sits_57 zl_X5_121 zg_X1_seat (zRc.of zld1.1 rfl rfl) (s_X1_seat zld1 hg hj hi) (fun v57 σ57 hq57 => ?_)
        obtain ⟨rfl, x1, x2⟩ := hq57
        refine zw_iload4 hB dX5_sits_60 ?_
        refine zw_iret hB hR dX5_sits_62 rfl ?_
        rw [zq_t c32]
        refine ⟨by rw [hr0], h.land ?_ (fun c hc => x2 c (by omega)), fun c hc => x2 c (by omega)⟩
        rw [x1, hr0, nI_clamp (by omega), nI_clamp (by omega)]
      · obtain ⟨k, hk, hc⟩ := (zcd_nb).resolve_left c32
        refine zw_aload0 hB dX5_sits_35 ?_
        refine zw_iload3 hB dX5_sits_36 ?_
        refine zw_callV1 (M' := mX5_refuse) hB dX5_sits_37 zl_X5_58 zg_X5_refuse (zRc.of rfl rfl rfl) (s_X5_refuse _ hc hk) (fun v37 σ37 hq37 => ?_)
        obtain ⟨rfl, rfl⟩ := hq37
        refine zw_iret hB hR dX5_sits_40 rfl ?_
        exact zCQ.no h c32 hk hc
theorem s_X5_leaves {n : Nat} {σ : zSt} {S : zS} (hS : zOk S) (h : zCW S σ) (p : Int32) : zSem (n + 1) mX5_leaves [.ref 0, .int p] σ (zCQ (q_leaves S p) σ) := by
  obtain ⟨⟨⟨F, P, hg0⟩, y0, hy0, ey0⟩, hkp, hlt, hrw⟩ := id hS
  have hnF := hg0.nF
  have hnP := hg0.nP
  have hr0 := h.1
  have hg : zGd (zrow σ 1) F P := by rw [hr0]; exact hg0
  have hF6 := hg.F6
  have hP6 := hg.P6
  have hF : σ 1 0 = nI F := hg.r0
  have hP : σ 1 1 = nI P := hg.r1
  unfold q_leaves
  try rw [hnF]
  try rw [hnP]
  refine zSem.of (by decide +kernel) (Nat.le_of_ble_eq_true rfl) (fun X hB hR => ?_)
  show zW X 0 [some (.ref 0), some (.int p), none] [] σ
  refine zw_aload0 hB dX5_leaves_0 ?_
  refine zw_getfR hB dX5_leaves_1 zf_X5_10 rfl rfl ?_
  refine zw_iload1 hB dX5_leaves_4 ?_
  refine zw_callV1P (M' := mX1_hasFarmer) hB dX5_leaves_5 zl_X5_98 zg_X1_hasFarmer (zRc.of zld1.1 rfl rfl) (s_hasFarmer zld1 hP _) ?_
  refine zw_if_neB (tgt := 17) hB dX5_leaves_8 (by decide) (fun c8 => ?_) (fun c8 => ?_)
  · obtain ⟨j, hj, rfl⟩ := zIn_j (by omega) c8
    refine zw_aload0 hB dX5_leaves_17 ?_
    refine zw_getfR hB dX5_leaves_18 zf_X5_10 rfl rfl ?_
    refine zw_getfR hB dX5_leaves_21 zf_X5_110 zld1.1 rfl ?_
    refine zw_iload1 hB dX5_leaves_24 ?_
    refine zw_ialdV (x := zat (zrow σ 1) j) hB dX5_leaves_25 zld1.2.2.2.2.2.2.1 (by omega) (by decide) (zrow_at (by omega)) ?_
    refine zw_istore2 hB dX5_leaves_26 rfl ?_
    refine zw_iload2 hB dX5_leaves_27 ?_
    refine zw_bipush (x := -9) hB dX5_leaves_28 (by decide) ?_
    refine zw_icmp_ne (tgt := 40) hB dX5_leaves_30 (by decide) (fun c30 => ?_) (fun c30 => ?_)
    · refine zw_aload0 hB dX5_leaves_40 ?_
      refine zw_getfR hB dX5_leaves_41 zf_X5_10 rfl rfl ?_
      refine zw_getfR hB dX5_leaves_44 zf_X5_110 zld1.1 rfl ?_
      refine zw_iload1 hB dX5_leaves_47 ?_
      refine zw_bipush (x := -9) hB dX5_leaves_48 (by decide) ?_
      refine zw_iastN hB dX5_leaves_50 zld1.2.2.2.2.2.2.1 (by omega) (by decide) ?_
      refine zw_iload2 hB dX5_leaves_51 ?_
      refine zw_iret hB hR dX5_leaves_52 rfl ?_
      rw [show w_leaves S.1 P (nI j) = nI 0 by unfold w_leaves; rw [if_pos (zIn_of hj (by omega)), nI_clamp (by omega), ← hr0, if_neg c30], zq_t (e := nI 0) rfl]
      refine ⟨by rw [nI_clamp (by omega), hr0], h.land ?_ (fun c hc => zC_n (by omega)), fun c hc => zC_n (by omega)⟩
      rw [zrow_set4 (w := 3) (by omega) (show j < 6 by omega) (by omega), hr0, nI_clamp (by omega)]
    · refine zw_aload0 hB dX5_leaves_33 ?_
      refine zw_bipush (x := -3) hB dX5_leaves_34 (by decide) ?_
      refine zw_callV1 (M' := mX5_refuse) hB dX5_leaves_36 zl_X5_58 zg_X5_refuse (zRc.of rfl rfl rfl) (s_X5_refuse (k := 3) _ (by decide) (by omega)) (fun v36 σ36 hq36 => ?_)
      obtain ⟨rfl, rfl⟩ := hq36
      refine zw_iret hB hR dX5_leaves_39 rfl ?_
      rw [show w_leaves S.1 P (nI j) = -3 by unfold w_leaves; rw [if_pos (zIn_of hj (by omega)), nI_clamp (by omega), ← hr0, if_pos c30]]
      exact zCQ.no h (by decide) (by omega) (by decide)
  · refine zw_aload0 hB dX5_leaves_11 ?_
    refine zw_iconst (x := -1) hB dX5_leaves_12 (by decide) ?_
    refine zw_callV1 (M' := mX5_refuse) hB dX5_leaves_13 zl_X5_58 zg_X5_refuse (zRc.of rfl rfl rfl) (s_X5_refuse (k := 1) _ (by decide) (by omega)) (fun v13 σ13 hq13 => ?_)
    obtain ⟨rfl, rfl⟩ := hq13
    refine zw_iret hB hR dX5_leaves_16 rfl ?_
    rw [show w_leaves S.1 P p = -1 from if_neg c8]
    exact zCQ.no h (by decide) (by omega) (by decide)
theorem s_X5_hearts {n : Nat} {σ : zSt} {S : zS} (hS : zOk S) (h : zCW S σ) (f s v : Int32) : zSem (n + 2) mX5_hearts [.ref 0, .int f, .int s, .int v] σ (zCQ (q_hearts S f s v) σ) := by
  obtain ⟨⟨⟨F, P, hg0⟩, y0, hy0, ey0⟩, hkp, hlt, hrw⟩ := id hS
  have hnF := hg0.nF
  have hnP := hg0.nP
  have hr0 := h.1
  have hg : zGd (zrow σ 1) F P := by rw [hr0]; exact hg0
  have hF6 := hg.F6
  have hP6 := hg.P6
  have hF : σ 1 0 = nI F := hg.r0
  have hP : σ 1 1 = nI P := hg.r1
  unfold q_hearts
  try rw [hnF]
  try rw [hnP]
  unfold w_hearts
  refine zSem.of (by decide +kernel) (Nat.le_of_ble_eq_true rfl) (fun X hB hR => ?_)
  show zW X 0 [some (.ref 0), some (.int f), some (.int s), some (.int v), none, none] [] σ
  refine zw_aload0 hB dX5_hearts_0 ?_
  refine zw_getfR hB dX5_hearts_1 zf_X5_10 rfl rfl ?_
  refine zw_iload1 hB dX5_hearts_4 ?_
  refine zw_callV1P (M' := mX1_hasFarm) hB dX5_hearts_5 zl_X5_78 zg_X1_hasFarm (zRc.of zld1.1 rfl rfl) (s_hasFarm zld1 hF _) ?_
  refine zw_if_eqB (tgt := 22) hB dX5_hearts_8 (by decide) (fun c8 => ?_) (fun c8 => ?_)
  · refine zw_iconst (x := nI 0) hB dX5_hearts_22 (by decide) ?_
    refine zw_eqI (y := zb (zIn f F ∧ zIn s 3)) (zb_f (fun z => c8 z.1)).symm ?_
    refine zw_callS1P (M' := mX5_nobodyUnless) hB dX5_hearts_23 zl_X5_82 zg_X5_nobodyUnless (s_X5_nobodyUnless) ?_
    refine zw_iload3 hB dX5_hearts_26 ?_
    refine zw_iconst (x := nI 0) hB dX5_hearts_27 (by decide) ?_
    refine zw_bipush (x := nI 30) hB dX5_hearts_28 (by decide) ?_
    refine zw_callS3P (M' := mX5_inRange) hB dX5_hearts_30 zl_X5_43 zg_X5_inRange (s_X5_inRange _ _ _) ?_
    refine zw_iconst (x := nI 0) hB dX5_hearts_33 (by decide) ?_
    refine zw_callS3P (M' := mX5_firstOf) hB dX5_hearts_34 zl_X5_55 zg_X5_firstOf (s_X5_firstOf _ _ _) ?_
    refine zw_istore4 hB dX5_hearts_37 rfl ?_
    refine zw_iload4 hB dX5_hearts_39 ?_
    refine zw_if_eq (tgt := 51) hB dX5_hearts_41 (by decide) (fun c41 => ?_) (fun c41 => ?_)
    · obtain ⟨e1, e2, -⟩ := zfo_0 c41
      obtain ⟨z1, z2⟩ := znb_0 e1
      obtain ⟨j, hj, rfl⟩ := zIn_j (by omega) z1
      obtain ⟨i, hi, rfl⟩ := zIn_j (by omega) z2
      obtain ⟨x, -, hx, rfl⟩ := zir_0 (by omega) (by omega) e2
      refine zw_aload0 hB dX5_hearts_51 ?_
      refine zw_getfR hB dX5_hearts_52 zf_X5_10 rfl rfl ?_
      refine zw_iload1 hB dX5_hearts_55 ?_
      refine zw_iload2 hB dX5_hearts_56 ?_
      refine zw_callV2P (M' := mX1_heartOf) hB dX5_hearts_57 zl_X5_95 zg_X1_heartOf (zRc.of zld1.1 rfl rfl) (s_X1_heartOf zld1 (by omega) hi) ?_
      refine zw_istore5 hB dX5_hearts_60 rfl ?_
      refine zw_aload0 hB dX5_hearts_62 ?_
      refine zw_getfR hB dX5_hearts_63 zf_X5_10 rfl rfl ?_
      refine zw_iload1 hB dX5_hearts_66 ?_
      refine zw_iload2 hB dX5_hearts_67 ?_
      refine zw_iload3 hB dX5_hearts_68 ?_
      refine zw_callV3U (M' := mX1_setHeart) hB dX5_hearts_69 zl_X5_128 zg_X1_setHeart (zRc.of zld1.1 rfl rfl) (s_X1_setHeart zld1 _ (by omega) hi) ?_
      refine zw_iload5 hB dX5_hearts_72 ?_
      refine zw_iret hB hR dX5_hearts_74 rfl ?_
      rw [zq_t c41]
      refine ⟨by rw [nI_clamp (by omega), nI_clamp (by omega), ← hr0, zrow_hs (by omega) hi], h.land ?_ (fun c hc => zC_n (by omega)), fun c hc => zC_n (by omega)⟩
      rw [zrow_seth (by omega), hr0, nI_clamp (by omega), nI_clamp (by omega), show 5 + (3 * j + i) = 5 + 3 * j + i by omega]
    · obtain ⟨k, hk, hc⟩ := (zcd_fo zcd_nb zcd_ir zcd_0).resolve_left c41
      refine zw_aload0 hB dX5_hearts_44 ?_
      refine zw_iload4 hB dX5_hearts_45 ?_
      refine zw_callV1 (M' := mX5_refuse) hB dX5_hearts_47 zl_X5_58 zg_X5_refuse (zRc.of rfl rfl rfl) (s_X5_refuse _ hc hk) (fun v47 σ47 hq47 => ?_)
      obtain ⟨rfl, rfl⟩ := hq47
      refine zw_iret hB hR dX5_hearts_50 rfl ?_
      exact zCQ.no h c41 hk hc
  · refine zw_iload2 hB dX5_hearts_11 ?_
    refine zw_callS1P (M' := mX1_hasSort) hB dX5_hearts_12 zl_X5_125 zg_X1_hasSort (s_X1_hasSort _) ?_
    refine zw_if_eqB (tgt := 22) hB dX5_hearts_15 (by decide) (fun c15 => ?_) (fun c15 => ?_)
    · refine zw_iconst (x := nI 0) hB dX5_hearts_22 (by decide) ?_
      refine zw_eqI (y := zb (zIn f F ∧ zIn s 3)) (zb_f (fun z => c15 z.2)).symm ?_
      refine zw_callS1P (M' := mX5_nobodyUnless) hB dX5_hearts_23 zl_X5_82 zg_X5_nobodyUnless (s_X5_nobodyUnless) ?_
      refine zw_iload3 hB dX5_hearts_26 ?_
      refine zw_iconst (x := nI 0) hB dX5_hearts_27 (by decide) ?_
      refine zw_bipush (x := nI 30) hB dX5_hearts_28 (by decide) ?_
      refine zw_callS3P (M' := mX5_inRange) hB dX5_hearts_30 zl_X5_43 zg_X5_inRange (s_X5_inRange _ _ _) ?_
      refine zw_iconst (x := nI 0) hB dX5_hearts_33 (by decide) ?_
      refine zw_callS3P (M' := mX5_firstOf) hB dX5_hearts_34 zl_X5_55 zg_X5_firstOf (s_X5_firstOf _ _ _) ?_
      refine zw_istore4 hB dX5_hearts_37 rfl ?_
      refine zw_iload4 hB dX5_hearts_39 ?_
      refine zw_if_eq (tgt := 51) hB dX5_hearts_41 (by decide) (fun c41 => ?_) (fun c41 => ?_)
      · obtain ⟨e1, e2, -⟩ := zfo_0 c41
        obtain ⟨z1, z2⟩ := znb_0 e1
        obtain ⟨j, hj, rfl⟩ := zIn_j (by omega) z1
        obtain ⟨i, hi, rfl⟩ := zIn_j (by omega) z2
        obtain ⟨x, -, hx, rfl⟩ := zir_0 (by omega) (by omega) e2
        refine zw_aload0 hB dX5_hearts_51 ?_
        refine zw_getfR hB dX5_hearts_52 zf_X5_10 rfl rfl ?_
        refine zw_iload1 hB dX5_hearts_55 ?_
        refine zw_iload2 hB dX5_hearts_56 ?_
        refine zw_callV2P (M' := mX1_heartOf) hB dX5_hearts_57 zl_X5_95 zg_X1_heartOf (zRc.of zld1.1 rfl rfl) (s_X1_heartOf zld1 (by omega) hi) ?_
        refine zw_istore5 hB dX5_hearts_60 rfl ?_
        refine zw_aload0 hB dX5_hearts_62 ?_
        refine zw_getfR hB dX5_hearts_63 zf_X5_10 rfl rfl ?_
        refine zw_iload1 hB dX5_hearts_66 ?_
        refine zw_iload2 hB dX5_hearts_67 ?_
        refine zw_iload3 hB dX5_hearts_68 ?_
        refine zw_callV3U (M' := mX1_setHeart) hB dX5_hearts_69 zl_X5_128 zg_X1_setHeart (zRc.of zld1.1 rfl rfl) (s_X1_setHeart zld1 _ (by omega) hi) ?_
        refine zw_iload5 hB dX5_hearts_72 ?_
        refine zw_iret hB hR dX5_hearts_74 rfl ?_
        rw [zq_t c41]
        refine ⟨by rw [nI_clamp (by omega), nI_clamp (by omega), ← hr0, zrow_hs (by omega) hi], h.land ?_ (fun c hc => zC_n (by omega)), fun c hc => zC_n (by omega)⟩
        rw [zrow_seth (by omega), hr0, nI_clamp (by omega), nI_clamp (by omega), show 5 + (3 * j + i) = 5 + 3 * j + i by omega]
      · obtain ⟨k, hk, hc⟩ := (zcd_fo zcd_nb zcd_ir zcd_0).resolve_left c41
        refine zw_aload0 hB dX5_hearts_44 ?_
        refine zw_iload4 hB dX5_hearts_45 ?_
        refine zw_callV1 (M' := mX5_refuse) hB dX5_hearts_47 zl_X5_58 zg_X5_refuse (zRc.of rfl rfl rfl) (s_X5_refuse _ hc hk) (fun v47 σ47 hq47 => ?_)
        obtain ⟨rfl, rfl⟩ := hq47
        refine zw_iret hB hR dX5_hearts_50 rfl ?_
        exact zCQ.no h c41 hk hc
    · refine zw_iconst (x := nI 1) hB dX5_hearts_18 (by decide) ?_
      refine zw_goto (tgt := 23) hB dX5_hearts_19 (by decide) ?_
      refine zw_eqI (y := zb (zIn f F ∧ zIn s 3)) (zb_t ⟨c8, c15⟩).symm ?_
      refine zw_callS1P (M' := mX5_nobodyUnless) hB dX5_hearts_23 zl_X5_82 zg_X5_nobodyUnless (s_X5_nobodyUnless) ?_
      refine zw_iload3 hB dX5_hearts_26 ?_
      refine zw_iconst (x := nI 0) hB dX5_hearts_27 (by decide) ?_
      refine zw_bipush (x := nI 30) hB dX5_hearts_28 (by decide) ?_
      refine zw_callS3P (M' := mX5_inRange) hB dX5_hearts_30 zl_X5_43 zg_X5_inRange (s_X5_inRange _ _ _) ?_
      refine zw_iconst (x := nI 0) hB dX5_hearts_33 (by decide) ?_
      refine zw_callS3P (M' := mX5_firstOf) hB dX5_hearts_34 zl_X5_55 zg_X5_firstOf (s_X5_firstOf _ _ _) ?_
      refine zw_istore4 hB dX5_hearts_37 rfl ?_
      refine zw_iload4 hB dX5_hearts_39 ?_
      refine zw_if_eq (tgt := 51) hB dX5_hearts_41 (by decide) (fun c41 => ?_) (fun c41 => ?_)
      · obtain ⟨e1, e2, -⟩ := zfo_0 c41
        obtain ⟨z1, z2⟩ := znb_0 e1
        obtain ⟨j, hj, rfl⟩ := zIn_j (by omega) z1
        obtain ⟨i, hi, rfl⟩ := zIn_j (by omega) z2
        obtain ⟨x, -, hx, rfl⟩ := zir_0 (by omega) (by omega) e2
        refine zw_aload0 hB dX5_hearts_51 ?_
        refine zw_getfR hB dX5_hearts_52 zf_X5_10 rfl rfl ?_
        refine zw_iload1 hB dX5_hearts_55 ?_
        refine zw_iload2 hB dX5_hearts_56 ?_
        refine zw_callV2P (M' := mX1_heartOf) hB dX5_hearts_57 zl_X5_95 zg_X1_heartOf (zRc.of zld1.1 rfl rfl) (s_X1_heartOf zld1 (by omega) hi) ?_
        refine zw_istore5 hB dX5_hearts_60 rfl ?_
        refine zw_aload0 hB dX5_hearts_62 ?_
        refine zw_getfR hB dX5_hearts_63 zf_X5_10 rfl rfl ?_
        refine zw_iload1 hB dX5_hearts_66 ?_
        refine zw_iload2 hB dX5_hearts_67 ?_
        refine zw_iload3 hB dX5_hearts_68 ?_
        refine zw_callV3U (M' := mX1_setHeart) hB dX5_hearts_69 zl_X5_128 zg_X1_setHeart (zRc.of zld1.1 rfl rfl) (s_X1_setHeart zld1 _ (by omega) hi) ?_
        refine zw_iload5 hB dX5_hearts_72 ?_
        refine zw_iret hB hR dX5_hearts_74 rfl ?_
        rw [zq_t c41]
        refine ⟨by rw [nI_clamp (by omega), nI_clamp (by omega), ← hr0, zrow_hs (by omega) hi], h.land ?_ (fun c hc => zC_n (by omega)), fun c hc => zC_n (by omega)⟩
        rw [zrow_seth (by omega), hr0, nI_clamp (by omega), nI_clamp (by omega), show 5 + (3 * j + i) = 5 + 3 * j + i by omega]
      · obtain ⟨k, hk, hc⟩ := (zcd_fo zcd_nb zcd_ir zcd_0).resolve_left c41
        refine zw_aload0 hB dX5_hearts_44 ?_
        refine zw_iload4 hB dX5_hearts_45 ?_
        refine zw_callV1 (M' := mX5_refuse) hB dX5_hearts_47 zl_X5_58 zg_X5_refuse (zRc.of rfl rfl rfl) (s_X5_refuse _ hc hk) (fun v47 σ47 hq47 => ?_)
        obtain ⟨rfl, rfl⟩ := hq47
        refine zw_iret hB hR dX5_hearts_50 rfl ?_
        exact zCQ.no h c41 hk hc
theorem s_X5_steps {n : Nat} {σ : zSt} {S : zS} (hS : zOk S) (h : zCW S σ) (v : Int32) : zSem (n + 1) mX5_steps [.ref 0, .int v] σ (zCQ (q_steps S v) σ) := by
  obtain ⟨⟨⟨F, P, hg0⟩, y0, hy0, ey0⟩, hkp, hlt, hrw⟩ := id hS
  have hnF := hg0.nF
  have hnP := hg0.nP
  have hr0 := h.1
  have hg : zGd (zrow σ 1) F P := by rw [hr0]; exact hg0
  have hF6 := hg.F6
  have hP6 := hg.P6
  have hF : σ 1 0 = nI F := hg.r0
  have hP : σ 1 1 = nI P := hg.r1
  unfold q_steps
  try rw [hnF]
  try rw [hnP]
  refine zSem.of (by decide +kernel) (Nat.le_of_ble_eq_true rfl) (fun X hB hR => ?_)
  show zW X 0 [some (.ref 0), some (.int v), none, none] [] σ
  refine zw_iload1 hB dX5_steps_0 ?_
  refine zw_iconst (x := nI 0) hB dX5_steps_1 (by decide) ?_
  refine zw_iconst (x := nI 5) hB dX5_steps_2 (by decide) ?_
  refine zw_callS3P (M' := mX5_inRange) hB dX5_steps_3 zl_X5_43 zg_X5_inRange (s_X5_inRange _ _ _) ?_
  refine zw_istore2 hB dX5_steps_6 rfl ?_
  refine zw_iload2 hB dX5_steps_7 ?_
  refine zw_if_eq (tgt := 17) hB dX5_steps_8 (by decide) (fun c8 => ?_) (fun c8 => ?_)
  · refine zw_aload0 hB dX5_steps_17 ?_
    refine zw_getfR hB dX5_steps_18 zf_X5_10 rfl rfl ?_
    refine zw_getfV (x := S.1 2) hB dX5_steps_21 zf_X5_132 zld1.1 rfl (by rw [← hr0]; rfl) ?_
    refine zw_istore3 hB dX5_steps_24 rfl ?_
    refine zw_aload0 hB dX5_steps_25 ?_
    refine zw_getfR hB dX5_steps_26 zf_X5_10 rfl rfl ?_
    refine zw_iload1 hB dX5_steps_29 ?_
    refine zw_putfI hB dX5_steps_30 zfw_X5_132 zld1.1 rfl ?_
    refine zw_iload3 hB dX5_steps_33 ?_
    refine zw_iret hB hR dX5_steps_34 rfl ?_
    rw [zq_t c8]
    refine ⟨rfl, h.land ?_ (fun c hc => zC_n (by omega)), fun c hc => zC_n (by omega)⟩
    rw [zrow_setf, if_pos (by omega), hr0]
  · obtain ⟨k, hk, hc⟩ := (zcd_ir).resolve_left c8
    refine zw_aload0 hB dX5_steps_11 ?_
    refine zw_iload2 hB dX5_steps_12 ?_
    refine zw_callV1 (M' := mX5_refuse) hB dX5_steps_13 zl_X5_58 zg_X5_refuse (zRc.of rfl rfl rfl) (s_X5_refuse _ hc hk) (fun v13 σ13 hq13 => ?_)
    obtain ⟨rfl, rfl⟩ := hq13
    refine zw_iret hB hR dX5_steps_16 rfl ?_
    exact zCQ.no h c8 hk hc
theorem s_X5_tires {n : Nat} {σ : zSt} {S : zS} (hS : zOk S) (h : zCW S σ) (p v : Int32) : zSem (n + 1) mX5_tires [.ref 0, .int p, .int v] σ (zCQ (q_tires S p v) σ) := by
  obtain ⟨⟨⟨F, P, hg0⟩, y0, hy0, ey0⟩, hkp, hlt, hrw⟩ := id hS
  have hnF := hg0.nF
  have hnP := hg0.nP
  have hr0 := h.1
  have hg : zGd (zrow σ 1) F P := by rw [hr0]; exact hg0
  have hF6 := hg.F6
  have hP6 := hg.P6
  have hF : σ 1 0 = nI F := hg.r0
  have hP : σ 1 1 = nI P := hg.r1
  unfold q_tires
  try rw [hnF]
  try rw [hnP]
  refine zSem.of (by decide +kernel) (Nat.le_of_ble_eq_true rfl) (fun X hB hR => ?_)
  show zW X 0 [some (.ref 0), some (.int p), some (.int v), none, none] [] σ
  refine zw_aload0 hB dX5_tires_0 ?_
  refine zw_getfR hB dX5_tires_1 zf_X5_10 rfl rfl ?_
  refine zw_iload1 hB dX5_tires_4 ?_
  refine zw_callV1P (M' := mX1_hasFarmer) hB dX5_tires_5 zl_X5_98 zg_X1_hasFarmer (zRc.of zld1.1 rfl rfl) (s_hasFarmer zld1 hP _) ?_
  refine zw_callS1P (M' := mX5_nobodyUnless) hB dX5_tires_8 zl_X5_82 zg_X5_nobodyUnless (s_X5_nobodyUnless) ?_
  refine zw_iload2 hB dX5_tires_11 ?_
  refine zw_iconst (x := nI 0) hB dX5_tires_12 (by decide) ?_
  refine zw_bipush (x := nI 20) hB dX5_tires_13 (by decide) ?_
  refine zw_callS3P (M' := mX5_inRange) hB dX5_tires_15 zl_X5_43 zg_X5_inRange (s_X5_inRange _ _ _) ?_
  refine zw_iconst (x := nI 0) hB dX5_tires_18 (by decide) ?_
  refine zw_callS3P (M' := mX5_firstOf) hB dX5_tires_19 zl_X5_55 zg_X5_firstOf (s_X5_firstOf _ _ _) ?_
  refine zw_istore3 hB dX5_tires_22 rfl ?_
  refine zw_iload3 hB dX5_tires_23 ?_
  refine zw_if_eq (tgt := 33) hB dX5_tires_24 (by decide) (fun c24 => ?_) (fun c24 => ?_)
  · obtain ⟨e1, e2, -⟩ := zfo_0 c24
    obtain ⟨j, hj, rfl⟩ := zIn_j (by omega) (znb_0 e1)
    refine zw_aload0 hB dX5_tires_33 ?_
    refine zw_getfR hB dX5_tires_34 zf_X5_10 rfl rfl ?_
    refine zw_getfR hB dX5_tires_37 zf_X5_107 zld1.1 rfl ?_
    refine zw_iload1 hB dX5_tires_40 ?_
    refine zw_ialdN hB dX5_tires_41 zld1.2.2.2.2.2.1 (by omega) (by decide) ?_
    refine zw_istore4 hB dX5_tires_42 rfl ?_
    refine zw_aload0 hB dX5_tires_44 ?_
    refine zw_getfR hB dX5_tires_45 zf_X5_10 rfl rfl ?_
    refine zw_getfR hB dX5_tires_48 zf_X5_107 zld1.1 rfl ?_
    refine zw_iload1 hB dX5_tires_51 ?_
    refine zw_iload2 hB dX5_tires_52 ?_
    refine zw_iastN hB dX5_tires_53 zld1.2.2.2.2.2.1 (by omega) (by decide) ?_
    refine zw_iload4 hB dX5_tires_54 ?_
    refine zw_iret hB hR dX5_tires_56 rfl ?_
    rw [zq_t c24]
    refine ⟨?_, h.land ?_ (fun c hc => zC_n (by omega)), fun c hc => zC_n (by omega)⟩
    · rw [nI_clamp (by omega), ← hr0]; exact congrArg (fun z => some (Value.int z)) (zrow_td (by omega))
    · rw [zrow_set4 (w := 2) (by omega) (show j < 6 by omega) (by omega), hr0, nI_clamp (by omega)]
  · obtain ⟨k, hk, hc⟩ := (zcd_fo zcd_nb zcd_ir zcd_0).resolve_left c24
    refine zw_aload0 hB dX5_tires_27 ?_
    refine zw_iload3 hB dX5_tires_28 ?_
    refine zw_callV1 (M' := mX5_refuse) hB dX5_tires_29 zl_X5_58 zg_X5_refuse (zRc.of rfl rfl rfl) (s_X5_refuse _ hc hk) (fun v29 σ29 hq29 => ?_)
    obtain ⟨rfl, rfl⟩ := hq29
    refine zw_iret hB hR dX5_tires_32 rfl ?_
    exact zCQ.no h c24 hk hc
theorem s_X5_turn {n : Nat} {σ : zSt} {S : zS} (hS : zOk S) (h : zCW S σ) (p k0 g : Int32) : zSem (n + 1) mX5_turn [.ref 0, .int p, .int k0, .int g] σ (zCQ (q_turn S p k0 g) σ) := by
  obtain ⟨⟨⟨F, P, hg0⟩, y0, hy0, ey0⟩, hkp, hlt, hrw⟩ := id hS
  have hnF := hg0.nF
  have hnP := hg0.nP
  have hr0 := h.1
  have hg : zGd (zrow σ 1) F P := by rw [hr0]; exact hg0
  have hF6 := hg.F6
  have hP6 := hg.P6
  have hF : σ 1 0 = nI F := hg.r0
  have hP : σ 1 1 = nI P := hg.r1
  unfold q_turn
  try rw [hnF]
  try rw [hnP]
  refine zSem.of (by decide +kernel) (Nat.le_of_ble_eq_true rfl) (fun X hB hR => ?_)
  show zW X 0 [some (.ref 0), some (.int p), some (.int k0), some (.int g), none, none] [] σ
  refine zw_aload0 hB dX5_turn_0 ?_
  refine zw_getfR hB dX5_turn_1 zf_X5_10 rfl rfl ?_
  refine zw_iload1 hB dX5_turn_4 ?_
  refine zw_callV1P (M' := mX1_hasFarmer) hB dX5_turn_5 zl_X5_98 zg_X1_hasFarmer (zRc.of zld1.1 rfl rfl) (s_hasFarmer zld1 hP _) ?_
  refine zw_callS1P (M' := mX5_nobodyUnless) hB dX5_turn_8 zl_X5_82 zg_X5_nobodyUnless (s_X5_nobodyUnless) ?_
  refine zw_iload2 hB dX5_turn_11 ?_
  refine zw_iconst (x := nI 5) hB dX5_turn_12 (by decide) ?_
  refine zw_callS2P (M' := mX5_otherUnless) hB dX5_turn_13 zl_X5_85 zg_X5_otherUnless (s_X5_otherUnless _ _) ?_
  refine zw_iload3 hB dX5_turn_16 ?_
  refine zw_iconst (x := nI 0) hB dX5_turn_17 (by decide) ?_
  refine zw_bipush (x := nI 9) hB dX5_turn_18 (by decide) ?_
  refine zw_callS3P (M' := mX5_inRange) hB dX5_turn_20 zl_X5_43 zg_X5_inRange (s_X5_inRange _ _ _) ?_
  refine zw_callS3P (M' := mX5_firstOf) hB dX5_turn_23 zl_X5_55 zg_X5_firstOf (s_X5_firstOf _ _ _) ?_
  refine zw_istore4 hB dX5_turn_26 rfl ?_
  refine zw_iload4 hB dX5_turn_28 ?_
  refine zw_if_eq (tgt := 40) hB dX5_turn_30 (by decide) (fun c30 => ?_) (fun c30 => ?_)
  · obtain ⟨e1, e2, e3⟩ := zfo_0 c30
    obtain ⟨j, hj, rfl⟩ := zIn_j (by omega) (znb_0 e1)
    refine zw_bipush (x := nI 10) hB dX5_turn_40 (by decide) ?_
    refine zw_aload0 hB dX5_turn_42 ?_
    refine zw_getfR hB dX5_turn_43 zf_X5_10 rfl rfl ?_
    refine zw_getfR hB dX5_turn_46 zf_X5_101 zld1.1 rfl ?_
    refine zw_iload1 hB dX5_turn_49 ?_
    refine zw_ialdN hB dX5_turn_50 zld1.2.2.2.1 (by omega) (by decide) ?_
    refine zw_imul hB dX5_turn_51 ?_
    refine zw_aload0 hB dX5_turn_52 ?_
    refine zw_getfR hB dX5_turn_53 zf_X5_10 rfl rfl ?_
    refine zw_getfR hB dX5_turn_56 zf_X5_104 zld1.1 rfl ?_
    refine zw_iload1 hB dX5_turn_59 ?_
    refine zw_ialdN hB dX5_turn_60 zld1.2.2.2.2.1 (by omega) (by decide) ?_
    refine zw_iadd hB dX5_turn_61 ?_
    refine zw_istore5 hB dX5_turn_62 rfl ?_
    refine zw_aload0 hB dX5_turn_64 ?_
    refine zw_getfR hB dX5_turn_65 zf_X5_10 rfl rfl ?_
    refine zw_getfR hB dX5_turn_68 zf_X5_101 zld1.1 rfl ?_
    refine zw_iload1 hB dX5_turn_71 ?_
    refine zw_iload2 hB dX5_turn_72 ?_
    refine zw_iastN hB dX5_turn_73 zld1.2.2.2.1 (by omega) (by decide) ?_
    refine zw_aload0 hB dX5_turn_74 ?_
    refine zw_getfR hB dX5_turn_75 zf_X5_10 rfl rfl ?_
    refine zw_getfR hB dX5_turn_78 zf_X5_104 zld1.1 rfl ?_
    refine zw_iload1 hB dX5_turn_81 ?_
    refine zw_iload3 hB dX5_turn_82 ?_
    refine zw_iastN hB dX5_turn_83 zld1.2.2.2.2.1 (by omega) (by decide) ?_
    refine zw_iload5 hB dX5_turn_84 ?_
    refine zw_iret hB hR dX5_turn_86 rfl ?_
    rw [zq_t c30]
    refine ⟨?_, h.land ?_ (fun c hc => by rw [zC_n (by omega), zC_n (by omega)]), fun c hc => by rw [zC_n (by omega), zC_n (by omega)]⟩
    · rw [nI_clamp (by omega), ← hr0, zrow_kd (σ := σ) (b := 1) (show j < 6 by omega), zrow_fg (σ := σ) (b := 1) (show j < 6 by omega)]
    · rw [zrow_set4 (w := 1) (by omega) (show j < 6 by omega) (by omega), zrow_set4 (w := 0) (by omega) (show j < 6 by omega) (by omega), hr0, nI_clamp (by omega)]
  · obtain ⟨k, hk, hc⟩ := (zcd_fo zcd_nb zcd_ou zcd_ir).resolve_left c30
    refine zw_aload0 hB dX5_turn_33 ?_
    refine zw_iload4 hB dX5_turn_34 ?_
    refine zw_callV1 (M' := mX5_refuse) hB dX5_turn_36 zl_X5_58 zg_X5_refuse (zRc.of rfl rfl rfl) (s_X5_refuse _ hc hk) (fun v36 σ36 hq36 => ?_)
    obtain ⟨rfl, rfl⟩ := hq36
    refine zw_iret hB hR dX5_turn_39 rfl ?_
    exact zCQ.no h c30 hk hc
theorem s_X5_years {n : Nat} {σ : zSt} {S : zS} (hS : zOk S) (h : zCW S σ) (m : Int32) : zSem (n + 5) mX5_years [.ref 0, .int m] σ (zCQ (q_years S m) σ) := by
  obtain ⟨⟨⟨F, P, hg0⟩, y0, hy0, ey0⟩, hkp, hlt, hrw⟩ := id hS
  have hnF := hg0.nF
  have hnP := hg0.nP
  have hr0 := h.1
  have hg : zGd (zrow σ 1) F P := by rw [hr0]; exact hg0
  have hF6 := hg.F6
  have hP6 := hg.P6
  have hF : σ 1 0 = nI F := hg.r0
  have hP : σ 1 1 = nI P := hg.r1
  unfold q_years
  try rw [hnF]
  try rw [hnP]
  refine zSem.of (by decide +kernel) (Nat.le_of_ble_eq_true rfl) (fun X hB hR => ?_)
  show zW X 0 [some (.ref 0), some (.int m), none] [] σ
  refine zw_iload1 hB dX5_years_0 ?_
  refine zw_iconst (x := nI 1) hB dX5_years_1 (by decide) ?_
  refine zw_bipush (x := nI 60) hB dX5_years_2 (by decide) ?_
  refine zw_callS3P (M' := mX5_inRange) hB dX5_years_4 zl_X5_43 zg_X5_inRange (s_X5_inRange _ _ _) ?_
  refine zw_aload0 hB dX5_years_7 ?_
  refine zw_getfR hB dX5_years_8 zf_X5_10 rfl rfl ?_
  refine zw_iload1 hB dX5_years_11 ?_
  refine zw_callV1P (M' := mX1_hasYears) hB dX5_years_12 zl_X5_135 zg_X1_hasYears (zRc.of zld1.1 rfl rfl) (s_X1_hasYears zld1 _) ?_
  rw [show σ 1 4 = S.1 4 by rw [← hr0]; rfl]
  refine zw_callS1P (M' := mX5_roomIf) hB dX5_years_15 zl_X5_51 zg_X5_roomIf (s_X5_roomIf) ?_
  refine zw_iconst (x := nI 0) hB dX5_years_18 (by decide) ?_
  refine zw_callS3P (M' := mX5_firstOf) hB dX5_years_19 zl_X5_55 zg_X5_firstOf (s_X5_firstOf _ _ _) ?_
  refine zw_istore2 hB dX5_years_22 rfl ?_
  refine zw_iload2 hB dX5_years_23 ?_
  refine zw_if_eq (tgt := 33) hB dX5_years_24 (by decide) (fun c24 => ?_) (fun c24 => ?_)
  · obtain ⟨e1, e2, -⟩ := zfo_0 c24
    obtain ⟨i, hi1, hi2, rfl⟩ := zir_0 (by omega) (by omega) e1
    refine zw_aload0 hB dX5_years_33 ?_
    refine zw_getfR hB dX5_years_34 zf_X5_10 rfl rfl ?_
    refine zw_iload1 hB dX5_years_37 ?_
    refine zw_callV1 (M' := mX1_grownIn) hB dX5_years_38 zl_X5_138 zg_X1_grownIn (zRc.of zld1.1 rfl rfl) (s_X1_grownIn zld1 hg (by omega)) (fun v38 σ38 hq38 => ?_)
    obtain ⟨rfl, x1, x2⟩ := hq38
    refine zw_pop hB dX5_years_41 rfl ?_
    refine zw_aload0 hB dX5_years_42 ?_
    refine zw_getfR hB dX5_years_43 zf_X5_10 rfl rfl ?_
    refine zw_getfV (x := zYs (zrow σ 1) i 3) hB dX5_years_46 zf_X5_141 zld1.1 rfl ((zrow_f (by omega)).symm.trans (congrFun x1 3)) ?_
    refine zw_iret hB hR dX5_years_49 rfl ?_
    rw [zq_t c24]
    refine ⟨by rw [nI_clamp (by omega), hr0], h.land ?_ (fun c hc => x2 c (by omega)), fun c hc => x2 c (by omega)⟩
    rw [x1, hr0, nI_clamp (by omega)]
  · obtain ⟨k, hk, hc⟩ := (zcd_fo zcd_ir zcd_rm zcd_0).resolve_left c24
    refine zw_aload0 hB dX5_years_27 ?_
    refine zw_iload2 hB dX5_years_28 ?_
    refine zw_callV1 (M' := mX5_refuse) hB dX5_years_29 zl_X5_58 zg_X5_refuse (zRc.of rfl rfl rfl) (s_X5_refuse _ hc hk) (fun v29 σ29 hq29 => ?_)
    obtain ⟨rfl, rfl⟩ := hq29
    refine zw_iret hB hR dX5_years_32 rfl ?_
    exact zCQ.no h c24 hk hc
theorem s_X3_after {n : Nat} {σ : zSt} {F P m : Nat} (hg : zGd (zrow σ 1) F P) (hm : m < 2 ^ 31) : zSem (n + 5) mX3_after [.ref 27, .ref 1, .int (nI m)] σ (fun v τ => v = some (.ref 28) ∧ zrow τ 28 = zYs (zrow σ 1) m ∧ zOut 28 σ τ) := by
  refine zSem.of (by decide +kernel) (Nat.le_of_ble_eq_true rfl) (fun X hB hR => ?_)
  show zW X 0 [some (.ref 27), some (.ref 1), some (.int (nI m))] [] σ
  refine zw_aload0 hB dX3_after_0 ?_
  refine zw_getfR hB dX3_after_1 zf_X3_12 rfl rfl ?_
  refine zw_aload1 hB dX3_after_4 ?_
  refine zw_callV1 (M' := mX1_become) hB dX3_after_5 zl_X3_35 zg_X1_become (zRc.of zld28.1 rfl rfl) (s_X1_become zld28 zld1 (by omega)) (fun v5 σ5 hq5 => ?_)
  obtain ⟨rfl, x1, x2⟩ := hq5
  have g5 : zGd (zrow σ5 28) F P := by rw [x1]; exact hg
  refine zw_aload0 hB dX3_after_8 ?_
  refine zw_getfR hB dX3_after_9 zf_X3_12 rfl rfl ?_
  refine zw_iload2 hB dX3_after_12 ?_
  refine zw_callV1 (M' := mX1_grownIn) hB dX3_after_13 zl_X3_39 zg_X1_grownIn (zRc.of zld28.1 rfl rfl) (s_X1_grownIn zld28 g5 hm) (fun v13 σ13 hq13 => ?_)
  obtain ⟨rfl, y1, y2⟩ := hq13
  refine zw_pop hB dX3_after_16 rfl ?_
  refine zw_aload0 hB dX3_after_17 ?_
  refine zw_getfR hB dX3_after_18 zf_X3_12 rfl rfl ?_
  refine zw_aret hB hR dX3_after_21 rfl ?_
  exact ⟨rfl, by rw [y1, x1], x2.tr y2⟩
theorem s_X5_heartThen {n : Nat} {σ : zSt} {S : zS} (hS : zOk S) (h : zCW S σ) (f s m : Int32) : zSem (n + 6) mX5_heartThen [.ref 0, .int f, .int s, .int m] σ (zCQ (q_heartThen S f s m) σ) := by
  obtain ⟨⟨⟨F, P, hg0⟩, y0, hy0, ey0⟩, hkp, hlt, hrw⟩ := id hS
  have hnF := hg0.nF
  have hnP := hg0.nP
  have hr0 := h.1
  have hg : zGd (zrow σ 1) F P := by rw [hr0]; exact hg0
  have hF6 := hg.F6
  have hP6 := hg.P6
  have hF : σ 1 0 = nI F := hg.r0
  have hP : σ 1 1 = nI P := hg.r1
  unfold q_heartThen
  try rw [hnF]
  try rw [hnP]
  refine zSem.of (by decide +kernel) (Nat.le_of_ble_eq_true rfl) (fun X hB hR => ?_)
  show zW X 0 [some (.ref 0), some (.int f), some (.int s), some (.int m), none] [] σ
  refine zw_aload0 hB dX5_heartThen_0 ?_
  refine zw_getfR hB dX5_heartThen_1 zf_X5_10 rfl rfl ?_
  refine zw_iload1 hB dX5_heartThen_4 ?_
  refine zw_callV1P (M' := mX1_hasFarm) hB dX5_heartThen_5 zl_X5_78 zg_X1_hasFarm (zRc.of zld1.1 rfl rfl) (s_hasFarm zld1 hF _) ?_
  refine zw_if_eqB (tgt := 22) hB dX5_heartThen_8 (by decide) (fun c8 => ?_) (fun c8 => ?_)
  · refine zw_iconst (x := nI 0) hB dX5_heartThen_22 (by decide) ?_
    refine zw_eqI (y := zb (zIn f F ∧ zIn s 3)) (zb_f (fun z => c8 z.1)).symm ?_
    refine zw_callS1P (M' := mX5_nobodyUnless) hB dX5_heartThen_23 zl_X5_82 zg_X5_nobodyUnless (s_X5_nobodyUnless) ?_
    refine zw_iload3 hB dX5_heartThen_26 ?_
    refine zw_iconst (x := nI 0) hB dX5_heartThen_27 (by decide) ?_
    refine zw_bipush (x := nI 60) hB dX5_heartThen_28 (by decide) ?_
    refine zw_callS3P (M' := mX5_inRange) hB dX5_heartThen_30 zl_X5_43 zg_X5_inRange (s_X5_inRange _ _ _) ?_
    refine zw_iconst (x := nI 0) hB dX5_heartThen_33 (by decide) ?_
    refine zw_callS3P (M' := mX5_firstOf) hB dX5_heartThen_34 zl_X5_55 zg_X5_firstOf (s_X5_firstOf _ _ _) ?_
    refine zw_istore4 hB dX5_heartThen_37 rfl ?_
    refine zw_iload4 hB dX5_heartThen_39 ?_
    refine zw_if_eq (tgt := 53) hB dX5_heartThen_41 (by decide) (fun c41 => ?_) (fun c41 => ?_)
    · obtain ⟨e1, e2, -⟩ := zfo_0 c41
      obtain ⟨z1, z2⟩ := znb_0 e1
      obtain ⟨j, hj, rfl⟩ := zIn_j (by omega) z1
      obtain ⟨i, hi, rfl⟩ := zIn_j (by omega) z2
      obtain ⟨m, -, hm, rfl⟩ := zir_0 (by omega) (by omega) e2
      refine zw_aload0 hB dX5_heartThen_53 ?_
      refine zw_getfR hB dX5_heartThen_54 zf_X5_32 rfl rfl ?_
      refine zw_aload0 hB dX5_heartThen_57 ?_
      refine zw_getfR hB dX5_heartThen_58 zf_X5_10 rfl rfl ?_
      refine zw_iload3 hB dX5_heartThen_61 ?_
      refine zw_callV2 (M' := mX3_after) hB dX5_heartThen_62 zl_X5_144 zg_X3_after (zRc.of rfl rfl rfl) (s_X3_after hg (by omega)) (fun v62 σ62 hq62 => ?_)
      obtain ⟨rfl, x1, x2⟩ := hq62
      have g2 : zGd (zrow σ62 28) F P := by rw [x1]; exact zGd_Ys hg _
      refine zw_iload1 hB dX5_heartThen_65 ?_
      refine zw_iload2 hB dX5_heartThen_66 ?_
      refine zw_callV2P (M' := mX1_heartOf) hB dX5_heartThen_67 zl_X5_95 zg_X1_heartOf (zRc.of zld28.1 rfl rfl) (s_X1_heartOf zld28 (by omega) hi) ?_
      refine zw_iret hB hR dX5_heartThen_70 rfl ?_
      refine zCQ.ok h c41 ?_ (fun c hc => x2 c (by omega))
      rw [nI_clamp (by omega), nI_clamp (by omega), nI_clamp (by omega), ← hr0, ← x1, zrow_hs (by omega) hi]
    · obtain ⟨k, hk, hc⟩ := (zcd_fo zcd_nb zcd_ir zcd_0).resolve_left c41
      refine zw_aload0 hB dX5_heartThen_44 ?_
      refine zw_iload4 hB dX5_heartThen_45 ?_
      refine zw_callV1 (M' := mX5_refuse) hB dX5_heartThen_47 zl_X5_58 zg_X5_refuse (zRc.of rfl rfl rfl) (s_X5_refuse _ hc hk) (fun v47 σ47 hq47 => ?_)
      obtain ⟨rfl, rfl⟩ := hq47
      refine zw_goto (tgt := 70) hB dX5_heartThen_50 (by decide) ?_
      refine zw_iret hB hR dX5_heartThen_70 rfl ?_
      exact zCQ.no h c41 hk hc
  · refine zw_iload2 hB dX5_heartThen_11 ?_
    refine zw_callS1P (M' := mX1_hasSort) hB dX5_heartThen_12 zl_X5_125 zg_X1_hasSort (s_X1_hasSort _) ?_
    refine zw_if_eqB (tgt := 22) hB dX5_heartThen_15 (by decide) (fun c15 => ?_) (fun c15 => ?_)
    · refine zw_iconst (x := nI 0) hB dX5_heartThen_22 (by decide) ?_
      refine zw_eqI (y := zb (zIn f F ∧ zIn s 3)) (zb_f (fun z => c15 z.2)).symm ?_
      refine zw_callS1P (M' := mX5_nobodyUnless) hB dX5_heartThen_23 zl_X5_82 zg_X5_nobodyUnless (s_X5_nobodyUnless) ?_
      refine zw_iload3 hB dX5_heartThen_26 ?_
      refine zw_iconst (x := nI 0) hB dX5_heartThen_27 (by decide) ?_
      refine zw_bipush (x := nI 60) hB dX5_heartThen_28 (by decide) ?_
      refine zw_callS3P (M' := mX5_inRange) hB dX5_heartThen_30 zl_X5_43 zg_X5_inRange (s_X5_inRange _ _ _) ?_
      refine zw_iconst (x := nI 0) hB dX5_heartThen_33 (by decide) ?_
      refine zw_callS3P (M' := mX5_firstOf) hB dX5_heartThen_34 zl_X5_55 zg_X5_firstOf (s_X5_firstOf _ _ _) ?_
      refine zw_istore4 hB dX5_heartThen_37 rfl ?_
      refine zw_iload4 hB dX5_heartThen_39 ?_
      refine zw_if_eq (tgt := 53) hB dX5_heartThen_41 (by decide) (fun c41 => ?_) (fun c41 => ?_)
      · obtain ⟨e1, e2, -⟩ := zfo_0 c41
        obtain ⟨z1, z2⟩ := znb_0 e1
        obtain ⟨j, hj, rfl⟩ := zIn_j (by omega) z1
        obtain ⟨i, hi, rfl⟩ := zIn_j (by omega) z2
        obtain ⟨m, -, hm, rfl⟩ := zir_0 (by omega) (by omega) e2
        refine zw_aload0 hB dX5_heartThen_53 ?_
        refine zw_getfR hB dX5_heartThen_54 zf_X5_32 rfl rfl ?_
        refine zw_aload0 hB dX5_heartThen_57 ?_
        refine zw_getfR hB dX5_heartThen_58 zf_X5_10 rfl rfl ?_
        refine zw_iload3 hB dX5_heartThen_61 ?_
        refine zw_callV2 (M' := mX3_after) hB dX5_heartThen_62 zl_X5_144 zg_X3_after (zRc.of rfl rfl rfl) (s_X3_after hg (by omega)) (fun v62 σ62 hq62 => ?_)
        obtain ⟨rfl, x1, x2⟩ := hq62
        have g2 : zGd (zrow σ62 28) F P := by rw [x1]; exact zGd_Ys hg _
        refine zw_iload1 hB dX5_heartThen_65 ?_
        refine zw_iload2 hB dX5_heartThen_66 ?_
        refine zw_callV2P (M' := mX1_heartOf) hB dX5_heartThen_67 zl_X5_95 zg_X1_heartOf (zRc.of zld28.1 rfl rfl) (s_X1_heartOf zld28 (by omega) hi) ?_
        refine zw_iret hB hR dX5_heartThen_70 rfl ?_
        refine zCQ.ok h c41 ?_ (fun c hc => x2 c (by omega))
        rw [nI_clamp (by omega), nI_clamp (by omega), nI_clamp (by omega), ← hr0, ← x1, zrow_hs (by omega) hi]
      · obtain ⟨k, hk, hc⟩ := (zcd_fo zcd_nb zcd_ir zcd_0).resolve_left c41
        refine zw_aload0 hB dX5_heartThen_44 ?_
        refine zw_iload4 hB dX5_heartThen_45 ?_
        refine zw_callV1 (M' := mX5_refuse) hB dX5_heartThen_47 zl_X5_58 zg_X5_refuse (zRc.of rfl rfl rfl) (s_X5_refuse _ hc hk) (fun v47 σ47 hq47 => ?_)
        obtain ⟨rfl, rfl⟩ := hq47
        refine zw_goto (tgt := 70) hB dX5_heartThen_50 (by decide) ?_
        refine zw_iret hB hR dX5_heartThen_70 rfl ?_
        exact zCQ.no h c41 hk hc
    · refine zw_iconst (x := nI 1) hB dX5_heartThen_18 (by decide) ?_
      refine zw_goto (tgt := 23) hB dX5_heartThen_19 (by decide) ?_
      refine zw_eqI (y := zb (zIn f F ∧ zIn s 3)) (zb_t ⟨c8, c15⟩).symm ?_
      refine zw_callS1P (M' := mX5_nobodyUnless) hB dX5_heartThen_23 zl_X5_82 zg_X5_nobodyUnless (s_X5_nobodyUnless) ?_
      refine zw_iload3 hB dX5_heartThen_26 ?_
      refine zw_iconst (x := nI 0) hB dX5_heartThen_27 (by decide) ?_
      refine zw_bipush (x := nI 60) hB dX5_heartThen_28 (by decide) ?_
      refine zw_callS3P (M' := mX5_inRange) hB dX5_heartThen_30 zl_X5_43 zg_X5_inRange (s_X5_inRange _ _ _) ?_
      refine zw_iconst (x := nI 0) hB dX5_heartThen_33 (by decide) ?_
      refine zw_callS3P (M' := mX5_firstOf) hB dX5_heartThen_34 zl_X5_55 zg_X5_firstOf (s_X5_firstOf _ _ _) ?_
      refine zw_istore4 hB dX5_heartThen_37 rfl ?_
      refine zw_iload4 hB dX5_heartThen_39 ?_
      refine zw_if_eq (tgt := 53) hB dX5_heartThen_41 (by decide) (fun c41 => ?_) (fun c41 => ?_)
      · obtain ⟨e1, e2, -⟩ := zfo_0 c41
        obtain ⟨z1, z2⟩ := znb_0 e1
        obtain ⟨j, hj, rfl⟩ := zIn_j (by omega) z1
        obtain ⟨i, hi, rfl⟩ := zIn_j (by omega) z2
        obtain ⟨m, -, hm, rfl⟩ := zir_0 (by omega) (by omega) e2
        refine zw_aload0 hB dX5_heartThen_53 ?_
        refine zw_getfR hB dX5_heartThen_54 zf_X5_32 rfl rfl ?_
        refine zw_aload0 hB dX5_heartThen_57 ?_
        refine zw_getfR hB dX5_heartThen_58 zf_X5_10 rfl rfl ?_
        refine zw_iload3 hB dX5_heartThen_61 ?_
        refine zw_callV2 (M' := mX3_after) hB dX5_heartThen_62 zl_X5_144 zg_X3_after (zRc.of rfl rfl rfl) (s_X3_after hg (by omega)) (fun v62 σ62 hq62 => ?_)
        obtain ⟨rfl, x1, x2⟩ := hq62
        have g2 : zGd (zrow σ62 28) F P := by rw [x1]; exact zGd_Ys hg _
        refine zw_iload1 hB dX5_heartThen_65 ?_
        refine zw_iload2 hB dX5_heartThen_66 ?_
        refine zw_callV2P (M' := mX1_heartOf) hB dX5_heartThen_67 zl_X5_95 zg_X1_heartOf (zRc.of zld28.1 rfl rfl) (s_X1_heartOf zld28 (by omega) hi) ?_
        refine zw_iret hB hR dX5_heartThen_70 rfl ?_
        refine zCQ.ok h c41 ?_ (fun c hc => x2 c (by omega))
        rw [nI_clamp (by omega), nI_clamp (by omega), nI_clamp (by omega), ← hr0, ← x1, zrow_hs (by omega) hi]
      · obtain ⟨k, hk, hc⟩ := (zcd_fo zcd_nb zcd_ir zcd_0).resolve_left c41
        refine zw_aload0 hB dX5_heartThen_44 ?_
        refine zw_iload4 hB dX5_heartThen_45 ?_
        refine zw_callV1 (M' := mX5_refuse) hB dX5_heartThen_47 zl_X5_58 zg_X5_refuse (zRc.of rfl rfl rfl) (s_X5_refuse _ hc hk) (fun v47 σ47 hq47 => ?_)
        obtain ⟨rfl, rfl⟩ := hq47
        refine zw_goto (tgt := 70) hB dX5_heartThen_50 (by decide) ?_
        refine zw_iret hB hR dX5_heartThen_70 rfl ?_
        exact zCQ.no h c41 hk hc
theorem s_X5_farmerThen {n : Nat} {σ : zSt} {S : zS} (hS : zOk S) (h : zCW S σ) (p m w : Int32) : zSem (n + 6) mX5_farmerThen [.ref 0, .int p, .int m, .int w] σ (zCQ (q_farmerThen S p m w) σ) := by
  obtain ⟨⟨⟨F, P, hg0⟩, y0, hy0, ey0⟩, hkp, hlt, hrw⟩ := id hS
  have hnF := hg0.nF
  have hnP := hg0.nP
  have hr0 := h.1
  have hg : zGd (zrow σ 1) F P := by rw [hr0]; exact hg0
  have hF6 := hg.F6
  have hP6 := hg.P6
  have hF : σ 1 0 = nI F := hg.r0
  have hP : σ 1 1 = nI P := hg.r1
  unfold q_farmerThen
  try rw [hnF]
  try rw [hnP]
  refine zSem.of (by decide +kernel) (Nat.le_of_ble_eq_true rfl) (fun X hB hR => ?_)
  show zW X 0 [some (.ref 0), some (.int p), some (.int m), some (.int w), none, none] [] σ
  refine zw_aload0 hB dX5_farmerThen_0 ?_
  refine zw_getfR hB dX5_farmerThen_1 zf_X5_10 rfl rfl ?_
  refine zw_iload1 hB dX5_farmerThen_4 ?_
  refine zw_callV1P (M' := mX1_hasFarmer) hB dX5_farmerThen_5 zl_X5_98 zg_X1_hasFarmer (zRc.of zld1.1 rfl rfl) (s_hasFarmer zld1 hP _) ?_
  refine zw_callS1P (M' := mX5_nobodyUnless) hB dX5_farmerThen_8 zl_X5_82 zg_X5_nobodyUnless (s_X5_nobodyUnless) ?_
  refine zw_iload2 hB dX5_farmerThen_11 ?_
  refine zw_iconst (x := nI 0) hB dX5_farmerThen_12 (by decide) ?_
  refine zw_bipush (x := nI 60) hB dX5_farmerThen_13 (by decide) ?_
  refine zw_callS3P (M' := mX5_inRange) hB dX5_farmerThen_15 zl_X5_43 zg_X5_inRange (s_X5_inRange _ _ _) ?_
  refine zw_iload3 hB dX5_farmerThen_18 ?_
  refine zw_iconst (x := nI 1) hB dX5_farmerThen_19 (by decide) ?_
  refine zw_callS2P (M' := mX5_otherUnless) hB dX5_farmerThen_20 zl_X5_85 zg_X5_otherUnless (s_X5_otherUnless _ _) ?_
  refine zw_callS3P (M' := mX5_firstOf) hB dX5_farmerThen_23 zl_X5_55 zg_X5_firstOf (s_X5_firstOf _ _ _) ?_
  refine zw_istore4 hB dX5_farmerThen_26 rfl ?_
  refine zw_iload4 hB dX5_farmerThen_28 ?_
  refine zw_if_eq (tgt := 40) hB dX5_farmerThen_30 (by decide) (fun c30 => ?_) (fun c30 => ?_)
  · obtain ⟨e1, e2, e3⟩ := zfo_0 c30
    obtain ⟨j, hj, rfl⟩ := zIn_j (by omega) (znb_0 e1)
    obtain ⟨m, -, hm, rfl⟩ := zir_0 (by omega) (by omega) e2
    refine zw_aload0 hB dX5_farmerThen_40 ?_
    refine zw_getfR hB dX5_farmerThen_41 zf_X5_32 rfl rfl ?_
    refine zw_aload0 hB dX5_farmerThen_44 ?_
    refine zw_getfR hB dX5_farmerThen_45 zf_X5_10 rfl rfl ?_
    refine zw_iload2 hB dX5_farmerThen_48 ?_
    refine zw_callV2 (M' := mX3_after) hB dX5_farmerThen_49 zl_X5_144 zg_X3_after (zRc.of rfl rfl rfl) (s_X3_after hg (by omega)) (fun v49 σ49 hq49 => ?_)
    obtain ⟨rfl, x1, x2⟩ := hq49
    have g2 : zGd (zrow σ49 28) F P := by rw [x1]; exact zGd_Ys hg _
    refine zw_astore5 hB dX5_farmerThen_52 rfl ?_
    refine zw_iload3 hB dX5_farmerThen_54 ?_
    refine zw_if_ne (tgt := 68) hB dX5_farmerThen_55 (by decide) (fun c55 => ?_) (fun c55 => ?_)
    · refine zw_aload5 hB dX5_farmerThen_68 ?_
      refine zw_getfR hB dX5_farmerThen_70 zf_X5_110 zld28.1 rfl ?_
      refine zw_iload1 hB dX5_farmerThen_73 ?_
      refine zw_ialdN hB dX5_farmerThen_74 zld28.2.2.2.2.2.2.1 (by omega) (by decide) ?_
      refine zw_iret hB hR dX5_farmerThen_75 rfl ?_
      refine zCQ.ok h c30 ?_ (fun c hc => x2 c (by omega))
      rw [if_neg (show ¬ w = nI 0 from c55), nI_clamp (by omega), nI_clamp (by omega), ← hr0, ← x1]
      exact congrArg (fun z => Value.int z) (zrow_at (by omega))
    · refine zw_aload5 hB dX5_farmerThen_58 ?_
      refine zw_getfR hB dX5_farmerThen_60 zf_X5_107 zld28.1 rfl ?_
      refine zw_iload1 hB dX5_farmerThen_63 ?_
      refine zw_ialdN hB dX5_farmerThen_64 zld28.2.2.2.2.2.1 (by omega) (by decide) ?_
      refine zw_goto (tgt := 75) hB dX5_farmerThen_65 (by decide) ?_
      refine zw_iret hB hR dX5_farmerThen_75 rfl ?_
      refine zCQ.ok h c30 ?_ (fun c hc => x2 c (by omega))
      rw [if_pos (show w = nI 0 from c55), nI_clamp (by omega), nI_clamp (by omega), ← hr0, ← x1]
      exact congrArg (fun z => Value.int z) (zrow_td (by omega))
  · obtain ⟨k, hk, hc⟩ := (zcd_fo zcd_nb zcd_ir zcd_ou).resolve_left c30
    refine zw_aload0 hB dX5_farmerThen_33 ?_
    refine zw_iload4 hB dX5_farmerThen_34 ?_
    refine zw_callV1 (M' := mX5_refuse) hB dX5_farmerThen_36 zl_X5_58 zg_X5_refuse (zRc.of rfl rfl rfl) (s_X5_refuse _ hc hk) (fun v36 σ36 hq36 => ?_)
    obtain ⟨rfl, rfl⟩ := hq36
    refine zw_iret hB hR dX5_farmerThen_39 rfl ?_
    exact zCQ.no h c30 hk hc
theorem s_X5_barnThen {n : Nat} {σ : zSt} {S : zS} (hS : zOk S) (h : zCW S σ) (m : Int32) : zSem (n + 6) mX5_barnThen [.ref 0, .int m] σ (zCQ (q_barnThen S m) σ) := by
  obtain ⟨⟨⟨F, P, hg0⟩, y0, hy0, ey0⟩, hkp, hlt, hrw⟩ := id hS
  have hnF := hg0.nF
  have hnP := hg0.nP
  have hr0 := h.1
  have hg : zGd (zrow σ 1) F P := by rw [hr0]; exact hg0
  have hF6 := hg.F6
  have hP6 := hg.P6
  have hF : σ 1 0 = nI F := hg.r0
  have hP : σ 1 1 = nI P := hg.r1
  unfold q_barnThen
  try rw [hnF]
  try rw [hnP]
  refine zSem.of (by decide +kernel) (Nat.le_of_ble_eq_true rfl) (fun X hB hR => ?_)
  show zW X 0 [some (.ref 0), some (.int m), none] [] σ
  refine zw_iload1 hB dX5_barnThen_0 ?_
  refine zw_iconst (x := nI 0) hB dX5_barnThen_1 (by decide) ?_
  refine zw_bipush (x := nI 60) hB dX5_barnThen_2 (by decide) ?_
  refine zw_callS3P (M' := mX5_inRange) hB dX5_barnThen_4 zl_X5_43 zg_X5_inRange (s_X5_inRange _ _ _) ?_
  refine zw_istore2 hB dX5_barnThen_7 rfl ?_
  refine zw_iload2 hB dX5_barnThen_8 ?_
  refine zw_if_eq (tgt := 20) hB dX5_barnThen_9 (by decide) (fun c9 => ?_) (fun c9 => ?_)
  · obtain ⟨m, -, hm, rfl⟩ := zir_0 (by omega) (by omega) c9
    refine zw_aload0 hB dX5_barnThen_20 ?_
    refine zw_getfR hB dX5_barnThen_21 zf_X5_32 rfl rfl ?_
    refine zw_aload0 hB dX5_barnThen_24 ?_
    refine zw_getfR hB dX5_barnThen_25 zf_X5_10 rfl rfl ?_
    refine zw_iload1 hB dX5_barnThen_28 ?_
    refine zw_callV2 (M' := mX3_after) hB dX5_barnThen_29 zl_X5_144 zg_X3_after (zRc.of rfl rfl rfl) (s_X3_after hg (by omega)) (fun v29 σ29 hq29 => ?_)
    obtain ⟨rfl, x1, x2⟩ := hq29
    have g2 : zGd (zrow σ29 28) F P := by rw [x1]; exact zGd_Ys hg _
    refine zw_getfI hB dX5_barnThen_32 zf_X5_141 zld28.1 rfl ?_
    refine zw_iret hB hR dX5_barnThen_35 rfl ?_
    refine zCQ.ok h c9 ?_ (fun c hc => x2 c (by omega))
    rw [nI_clamp (by omega), ← hr0, ← x1, zrow_f (by omega)]
  · obtain ⟨k, hk, hc⟩ := (zcd_ir).resolve_left c9
    refine zw_aload0 hB dX5_barnThen_12 ?_
    refine zw_iload2 hB dX5_barnThen_13 ?_
    refine zw_callV1 (M' := mX5_refuse) hB dX5_barnThen_14 zl_X5_58 zg_X5_refuse (zRc.of rfl rfl rfl) (s_X5_refuse _ hc hk) (fun v14 σ14 hq14 => ?_)
    obtain ⟨rfl, rfl⟩ := hq14
    refine zw_goto (tgt := 35) hB dX5_barnThen_17 (by decide) ?_
    refine zw_iret hB hR dX5_barnThen_35 rfl ?_
    exact zCQ.no h c9 hk hc
theorem s_X5_greenest {n : Nat} {σ : zSt} {S : zS} (hS : zOk S) (h : zCW S σ)  : zSem (n + 3) mX5_greenest [.ref 0] σ (zCQ (q_greenest S ) σ) := by
  obtain ⟨⟨⟨F, P, hg0⟩, y0, hy0, ey0⟩, hkp, hlt, hrw⟩ := id hS
  have hnF := hg0.nF
  have hnP := hg0.nP
  have hr0 := h.1
  have hg : zGd (zrow σ 1) F P := by rw [hr0]; exact hg0
  have hF6 := hg.F6
  have hP6 := hg.P6
  have hF : σ 1 0 = nI F := hg.r0
  have hP : σ 1 1 = nI P := hg.r1
  unfold q_greenest
  try rw [hnF]
  try rw [hnP]
  refine zSem.of (by decide +kernel) (Nat.le_of_ble_eq_true rfl) (fun X hB hR => ?_)
  show zW X 0 [some (.ref 0)] [] σ
  refine zw_aload0 hB dX5_greenest_0 ?_
  refine zw_getfR hB dX5_greenest_1 zf_X5_10 rfl rfl ?_
  refine zw_callV0P (M' := mX1_greenestFarm) hB dX5_greenest_4 zl_X5_148 zg_X1_greenestFarm (zRc.of zld1.1 rfl rfl) (s_X1_greenestFarm zld1 hg) ?_
  refine zw_iret hB hR dX5_greenest_7 rfl ?_
  exact ⟨by rw [← hr0], h, fun _ _ => rfl⟩
