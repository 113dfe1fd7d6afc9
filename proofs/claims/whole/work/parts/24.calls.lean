/-! THE CALLS, what they answer: land -/
abbrev zIn (x : Int32) (n : Nat) : Prop := ¬ x < 0 ∧ ¬ nI n ≤ x
theorem zIn_j {x : Int32} {n : Nat} (hn : n < 2 ^ 31) (h : zIn x n) : ∃ j, j < n ∧ x = nI j := by
  rcases zix x n hn with (q | q) | q
  · exact absurd q h.1
  · exact absurd q.2 h.2
  · exact q
theorem zIn_of {j n : Nat} (h : j < n) (hn : n < 2 ^ 31) : zIn (nI j) n := ⟨nI_pos (by omega), fun z => absurd ((nI_leI hn (by omega)).mp z) (by omega)⟩
theorem zfo_0 {a b c : Int32} (h : zfo a b c = 0) : a = 0 ∧ b = 0 ∧ c = 0 := by
  unfold zfo at h
  by_cases ha : a = 0
  · rw [if_pos ha] at h
    by_cases hb : b = 0
    · rw [if_pos hb] at h; exact ⟨ha, hb, h⟩
    · rw [if_neg hb] at h; exact absurd h hb
  · rw [if_neg ha] at h; exact absurd h ha
theorem znb_0 {c : Prop} [Decidable c] (h : znb c = 0) : c := by
  unfold znb at h
  by_cases hc : c
  · exact hc
  · rw [if_neg hc] at h; exact absurd h (by decide)
theorem zrO_0 {c : Prop} [Decidable c] (h : zrO c = 0) : c := by
  unfold zrO at h
  by_cases hc : c
  · exact hc
  · rw [if_neg hc] at h; exact absurd h (by decide)
theorem zou_0 {w : Int32} {m : Nat} (hm : m < 2 ^ 30) (h : zou w (nI m) = 0) : ∃ j, j ≤ m ∧ w = nI j := by
  unfold zou at h
  by_cases hc : ¬ w < 0 ∧ ¬ nI m < w
  · obtain ⟨j, hj, rfl⟩ := nI_of hc.1
    exact ⟨j, Nat.le_of_not_lt fun z => hc.2 (nI_lt z hj), rfl⟩
  · rw [if_neg hc] at h; exact absurd h (by decide)
theorem zir_0 {v : Int32} {a m : Nat} (ha : a < 2 ^ 30) (hm : m < 2 ^ 30) (h : zir v (nI a) (nI m) = 0) : ∃ j, a ≤ j ∧ j ≤ m ∧ v = nI j := by
  unfold zir at h
  by_cases h1 : v < nI a
  · rw [if_pos h1] at h; exact absurd h (by decide)
  · rw [if_neg h1] at h
    by_cases h2 : nI m < v
    · rw [if_pos h2] at h; exact absurd h (by decide)
    · have h0 : ¬ v < 0 := by
        intro z
        refine h1 (Int32.lt_iff_toInt_lt.mpr ?_)
        have h3 := Int32.lt_iff_toInt_lt.mp z
        have e0 : (0 : Int32).toInt = 0 := by decide
        have e1 : (nI a).toInt = a := nI_toInt (by omega)
        omega
      obtain ⟨j, hj, rfl⟩ := nI_of h0
      refine ⟨j, Nat.le_of_not_lt fun z => h1 (nI_lt z (by omega)), Nat.le_of_not_lt fun z => h2 (nI_lt z hj), rfl⟩
theorem zCQ.ok {S : zS} {σ τ : zSt} {e : Int32} {v v' : Value} (h : zCW S σ) (he : e = 0) (hv : v = v') (k : ∀ c, (c ≤ 16 ∨ c = 25 ∨ c = 26 ∨ 48 ≤ c) → τ c = σ c) : zCQ (zq S e (v', S)) σ (some v) τ := by
  subst hv
  exact zCQ.same h he k
theorem zRQ.ok {S : zS} {σ τ : zSt} {e : Int32} {v v' : Value} (h : zRW S σ) (he : e = 0) (hv : v = v') (k0 : τ 50 6 = σ 50 6 ∧ τ 50 10 = σ 50 10 ∧ τ 50 11 = σ 50 11) (k : ∀ c, (c < 50 ∨ c = 51 ∨ c = 53 ∨ c = 57 ∨ c = 58 ∨ c = 59) → τ c = σ c) : zRQ (zq S e (v', S)) σ (some v) τ := by
  subst hv
  exact zRQ.same h he k0 k
theorem s_hasFarm {n : Nat} {σ : zSt} {b F : Nat} (hb : zLd b) (hF : σ b 0 = nI F) (f : Int32) : zSem n mX1_hasFarm [.ref b, .int f] σ (zP σ (.int (zb (zIn f F)))) := by
  have := s_X1_hasFarm (n := n) (σ := σ) hb f
  rw [hF] at this
  exact this
theorem s_hasFarmer {n : Nat} {σ : zSt} {b P : Nat} (hb : zLd b) (hP : σ b 1 = nI P) (f : Int32) : zSem n mX1_hasFarmer [.ref b, .int f] σ (zP σ (.int (zb (zIn f P)))) := by
  have := s_X1_hasFarmer (n := n) (σ := σ) hb f
  rw [hP] at this
  exact this
def zfr1 (S : zS) (r : zRw) : zS := (r, S.2)
def w_farm (F : Nat) (f w : Int32) : Int32 := zfo (znb (zIn f F)) (zou w (nI 4)) (nI 0)
def a_farm (r : zRw) (P : Nat) (f w : Int32) : Int32 := if w = nI 3 then zgn r f.toNatClampNeg else if w = nI 4 then zten r f 0 P else r (5 + 3 * f.toNatClampNeg + w.toNatClampNeg)
def q_farm (S : zS) (f w : Int32) : Value × zS := zq S (w_farm (zNF S.1) f w) (.int (a_farm S.1 (zNP S.1) f w), S)
def w_farmer (P : Nat) (p w : Int32) : Int32 := zfo (znb (zIn p P)) (zou w (nI 5)) (nI 0)
def a_farmer (r : zRw) (p w : Int32) : Int32 := if w = nI 0 then r (23 + 4 * p.toNatClampNeg) else if w = nI 1 then r (24 + 4 * p.toNatClampNeg) else if w = nI 2 then r (25 + 4 * p.toNatClampNeg) else if w = nI 3 then r (26 + 4 * p.toNatClampNeg) else if w = nI 4 then zgb r p.toNatClampNeg (zat r p.toNatClampNeg) else ztr (zkd r p.toNatClampNeg)
def q_farmer (S : zS) (p w : Int32) : Value × zS := zq S (w_farmer (zNP S.1) p w) (.int (a_farmer S.1 p w), S)
def q_sits (S : zS) (p f : Int32) : Value × zS := zq S (znb (zIn p (zNP S.1) ∧ zIn f (zNF S.1))) (.int (zten S.1 f 0 (zNP S.1)), (zSt1 S.1 p.toNatClampNeg f.toNatClampNeg, S.2))
def w_leaves (r : zRw) (P : Nat) (p : Int32) : Int32 := if zIn p P then (if zat r p.toNatClampNeg = -9 then -3 else nI 0) else -1
def q_leaves (S : zS) (p : Int32) : Value × zS := zq S (w_leaves S.1 (zNP S.1) p) (.int (zat S.1 p.toNatClampNeg), (upd S.1 (26 + 4 * p.toNatClampNeg) (-9), S.2))
def w_hearts (F : Nat) (f s v : Int32) : Int32 := zfo (znb (zIn f F ∧ zIn s 3)) (zir v (nI 0) (nI 30)) (nI 0)
def q_hearts (S : zS) (f s v : Int32) : Value × zS := zq S (w_hearts (zNF S.1) f s v) (.int (S.1 (5 + 3 * f.toNatClampNeg + s.toNatClampNeg)), (upd S.1 (5 + 3 * f.toNatClampNeg + s.toNatClampNeg) v, S.2))
def q_steps (S : zS) (v : Int32) : Value × zS := zq S (zir v (nI 0) (nI 5)) (.int (S.1 2), (upd S.1 2 v, S.2))
def q_tires (S : zS) (p v : Int32) : Value × zS := zq S (zfo (znb (zIn p (zNP S.1))) (zir v (nI 0) (nI 20)) (nI 0)) (.int (S.1 (25 + 4 * p.toNatClampNeg)), (upd S.1 (25 + 4 * p.toNatClampNeg) v, S.2))
def q_turn (S : zS) (p k g : Int32) : Value × zS := zq S (zfo (znb (zIn p (zNP S.1))) (zou k (nI 5)) (zir g (nI 0) (nI 9))) (.int (nI 10 * S.1 (23 + 4 * p.toNatClampNeg) + S.1 (24 + 4 * p.toNatClampNeg)), (upd (upd S.1 (23 + 4 * p.toNatClampNeg) k) (24 + 4 * p.toNatClampNeg) g, S.2))
def q_years (S : zS) (m : Int32) : Value × zS := zq S (zfo (zir m (nI 1) (nI 60)) (zrO (m ≤ nI 999 - S.1 4)) (nI 0)) (.int (zYs S.1 m.toNatClampNeg 3), (zYs S.1 m.toNatClampNeg, S.2))
def q_heartThen (S : zS) (f s m : Int32) : Value × zS := zq S (zfo (znb (zIn f (zNF S.1) ∧ zIn s 3)) (zir m (nI 0) (nI 60)) (nI 0)) (.int (zYs S.1 m.toNatClampNeg (5 + 3 * f.toNatClampNeg + s.toNatClampNeg)), S)
def q_farmerThen (S : zS) (p m w : Int32) : Value × zS := zq S (zfo (znb (zIn p (zNP S.1))) (zir m (nI 0) (nI 60)) (zou w (nI 1))) (.int (if w = nI 0 then zYs S.1 m.toNatClampNeg (25 + 4 * p.toNatClampNeg) else zYs S.1 m.toNatClampNeg (26 + 4 * p.toNatClampNeg)), S)
def q_barnThen (S : zS) (m : Int32) : Value × zS := zq S (zir m (nI 0) (nI 60)) (.int (zYs S.1 m.toNatClampNeg 3), S)
def q_greenest (S : zS) : Value × zS := (.int (zopt (zgst (zgn S.1) (zNF S.1))), S)

theorem s_X5_farm {n : Nat} {σ : zSt} {S : zS} (hS : zOk S) (h : zCW S σ) (f w : Int32) : zSem (n + 2) mX5_farm [.ref 0, .int f, .int w] σ (zCQ (q_farm S f w) σ) := by
  obtain ⟨⟨⟨F, P, hg0⟩, y0, hy0, ey0⟩, hkp, hlt, hrw⟩ := id hS
  have hnF := hg0.nF
  have hnP := hg0.nP
  have hr0 := h.1
  have hg : zGd (zrow σ 1) F P := by rw [hr0]; exact hg0
  have hF6 := hg.F6
  have hP6 := hg.P6
  have hF : σ 1 0 = nI F := hg.r0
  have hP : σ 1 1 = nI P := hg.r1
  unfold q_farm
  try rw [hnF]
  try rw [hnP]
  refine zSem.of (by decide +kernel) (Nat.le_of_ble_eq_true rfl) (fun X hB hR => ?_)
  show zW X 0 [some (.ref 0), some (.int f), some (.int w), none] [] σ
  refine zw_aload0 hB dX5_farm_0 ?_
  refine zw_getfR hB dX5_farm_1 zf_X5_10 rfl rfl ?_
  refine zw_iload1 hB dX5_farm_4 ?_
  refine zw_callV1P (M' := mX1_hasFarm) hB dX5_farm_5 zl_X5_78 zg_X1_hasFarm (zRc.of zld1.1 rfl rfl) (s_hasFarm zld1 hF _) ?_
  refine zw_callS1P (M' := mX5_nobodyUnless) hB dX5_farm_8 zl_X5_82 zg_X5_nobodyUnless (s_X5_nobodyUnless) ?_
  refine zw_iload2 hB dX5_farm_11 ?_
  refine zw_iconst (x := nI 4) hB dX5_farm_12 (by decide) ?_
  refine zw_callS2P (M' := mX5_otherUnless) hB dX5_farm_13 zl_X5_85 zg_X5_otherUnless (s_X5_otherUnless _ _) ?_
  refine zw_iconst (x := nI 0) hB dX5_farm_16 (by decide) ?_
  refine zw_callS3P (M' := mX5_firstOf) hB dX5_farm_17 zl_X5_55 zg_X5_firstOf (s_X5_firstOf _ _ _) ?_
  refine zw_istore3 hB dX5_farm_20 rfl ?_
  refine zw_iload3 hB dX5_farm_21 ?_
  refine zw_if_eq (tgt := 31) hB dX5_farm_22 (by decide) (fun c22 => ?_) (fun c22 => ?_)
  · obtain ⟨e1, e2, -⟩ := zfo_0 c22
    obtain ⟨j, hj, rfl⟩ := zIn_j (by omega) (znb_0 e1)
    obtain ⟨i, hi, rfl⟩ := zou_0 (by omega) e2
    refine zw_iload2 hB dX5_farm_31 ?_
    refine zw_iconst (x := nI 3) hB dX5_farm_32 (by decide) ?_
    refine zw_icmp_neN (tgt := 45) hB dX5_farm_33 (by decide) (by omega) (by omega) (fun c33 => ?_) (fun c33 => ?_)
    · refine zw_iload2 hB dX5_farm_45 ?_
      refine zw_iconst (x := nI 4) hB dX5_farm_46 (by decide) ?_
      refine zw_icmp_neN (tgt := 61) hB dX5_farm_47 (by decide) (by omega) (by omega) (fun c47 => ?_) (fun c47 => ?_)
      · refine zw_aload0 hB dX5_farm_61 ?_
        refine zw_getfR hB dX5_farm_62 zf_X5_10 rfl rfl ?_
        refine zw_iload1 hB dX5_farm_65 ?_
        refine zw_iload2 hB dX5_farm_66 ?_
        refine zw_callV2P (M' := mX1_heartOf) hB dX5_farm_67 zl_X5_95 zg_X1_heartOf (zRc.of zld1.1 rfl rfl) (s_X1_heartOf zld1 (by omega) (by omega)) ?_
        refine zw_iret hB hR dX5_farm_70 rfl ?_
        refine zCQ.ok h c22 ?_ (fun _ _ => rfl)
        unfold a_farm
        rw [if_neg (fun z => c33 ((nI_eq (by omega) (by omega)).mp z)), if_neg (fun z => c47 ((nI_eq (by omega) (by omega)).mp z)), nI_clamp (by omega), nI_clamp (by omega), ← hr0, zrow_hs (by omega) (by omega)]
      · refine zw_aload0 hB dX5_farm_50 ?_
        refine zw_getfR hB dX5_farm_51 zf_X5_10 rfl rfl ?_
        refine zw_iload1 hB dX5_farm_54 ?_
        refine zw_callV1P (M' := mX1_tenantOf) hB dX5_farm_55 zl_X5_92 zg_X1_tenantOf (zRc.of zld1.1 rfl rfl) (s_X1_tenantOf zld1 hg _) ?_
        refine zw_goto (tgt := 70) hB dX5_farm_58 (by decide) ?_
        refine zw_iret hB hR dX5_farm_70 rfl ?_
        refine zCQ.ok h c22 ?_ (fun _ _ => rfl)
        unfold a_farm
        rw [if_neg (fun z => c33 ((nI_eq (by omega) (by omega)).mp z)), if_pos (by rw [c47]), ← hr0]
    · refine zw_aload0 hB dX5_farm_36 ?_
      refine zw_getfR hB dX5_farm_37 zf_X5_10 rfl rfl ?_
      refine zw_iload1 hB dX5_farm_40 ?_
      refine zw_callV1P (M' := mX1_greenOf) hB dX5_farm_41 zl_X5_89 zg_X1_greenOf (zRc.of zld1.1 rfl rfl) (s_X1_greenOf zld1 (by omega)) ?_
      refine zw_iret hB hR dX5_farm_44 rfl ?_
      refine zCQ.ok h c22 ?_ (fun _ _ => rfl)
      unfold a_farm
      rw [if_pos (by rw [c33]), nI_clamp (by omega), ← hr0]
  · obtain ⟨k, hk, hc⟩ := (zcd_fo zcd_nb zcd_ou zcd_0).resolve_left c22
    refine zw_aload0 hB dX5_farm_25 ?_
    refine zw_iload3 hB dX5_farm_26 ?_
    refine zw_callV1 (M' := mX5_refuse) hB dX5_farm_27 zl_X5_58 zg_X5_refuse (zRc.of rfl rfl rfl) (s_X5_refuse _ hc hk) (fun v27 σ27 hq27 => ?_)
    obtain ⟨rfl, rfl⟩ := hq27
    refine zw_iret hB hR dX5_farm_30 rfl ?_
    exact zCQ.no h c22 hk hc
