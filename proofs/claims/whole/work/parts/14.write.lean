/-! LAND, written: the class's year -/
theorem zrow_ext {r r' : zRw} (h0 : ∀ k, k < 5 → r k = r' k) (h1 : ∀ k, k < 18 → r (5 + k) = r' (5 + k)) (h2 : ∀ p, p < 6 → r (23 + 4 * p) = r' (23 + 4 * p)) (h3 : ∀ p, p < 6 → r (24 + 4 * p) = r' (24 + 4 * p)) (h4 : ∀ p, p < 6 → r (25 + 4 * p) = r' (25 + 4 * p)) (h5 : ∀ p, p < 6 → r (26 + 4 * p) = r' (26 + 4 * p)) (h6 : ∀ k, 47 ≤ k → r k = r' k) : r = r' := by
  funext k
  by_cases c0 : k < 5
  · exact h0 k c0
  · by_cases c1 : k < 23
    · have e : k = 5 + (k - 5) := by omega
      rw [e]; exact h1 _ (by omega)
    · by_cases c2 : k < 47
      · have hp : (k - 23) / 4 < 6 := by omega
        have hw : (k - 23) % 4 = 0 ∨ (k - 23) % 4 = 1 ∨ (k - 23) % 4 = 2 ∨ (k - 23) % 4 = 3 := by omega
        rcases hw with w | w | w | w
        · have e : k = 23 + 4 * ((k - 23) / 4) := by omega
          rw [e]; exact h2 _ hp
        · have e : k = 24 + 4 * ((k - 23) / 4) := by omega
          rw [e]; exact h3 _ hp
        · have e : k = 25 + 4 * ((k - 23) / 4) := by omega
          rw [e]; exact h4 _ hp
        · have e : k = 26 + 4 * ((k - 23) / 4) := by omega
          rw [e]; exact h5 _ hp
      · exact h6 k (by omega)
theorem zrow_setf {σ : zSt} {b k : Nat} {x : Int32} : zrow (zC σ b (upd (σ b) k x)) b = if k < 5 then upd (zrow σ b) k x else zrow σ b := by
  by_cases hk : k < 5
  · rw [if_pos hk]
    refine zrow_ext (fun j hj => ?_) (fun j hj => ?_) (fun p hp => ?_) (fun p hp => ?_) (fun p hp => ?_) (fun p hp => ?_) (fun j hj => ?_)
    · rw [zrow_f hj, zC_s]
      by_cases e : j = k
      · subst e; rw [zupd_s, zupd_s]
      · rw [zupd_o e, zupd_o e, zrow_f hj]
    · rw [zupd_o (by omega), zrow_h hj, zrow_h hj, zC_n (by omega)]
    · rw [zupd_o (by omega), ← zrow_kd hp, ← zrow_kd hp, zC_n (by omega)]
    · rw [zupd_o (by omega), ← zrow_fg hp, ← zrow_fg hp, zC_n (by omega)]
    · rw [zupd_o (by omega)]; exact (zrow_td hp).symm.trans ((congrFun (zC_n (by omega)) p).trans (zrow_td hp))
    · rw [zupd_o (by omega)]; exact (zrow_at hp).symm.trans ((congrFun (zC_n (by omega)) p).trans (zrow_at hp))
    · rw [zupd_o (by omega), zrow_out hj, zrow_out hj]
  · rw [if_neg hk]
    refine zrow_ext (fun j hj => ?_) (fun j hj => ?_) (fun p hp => ?_) (fun p hp => ?_) (fun p hp => ?_) (fun p hp => ?_) (fun j hj => ?_)
    · rw [zrow_f hj, zC_s, zupd_o (by omega), zrow_f hj]
    · rw [zrow_h hj, zrow_h hj, zC_n (by omega)]
    · rw [← zrow_kd hp, ← zrow_kd hp, zC_n (by omega)]
    · rw [← zrow_fg hp, ← zrow_fg hp, zC_n (by omega)]
    · exact (zrow_td hp).symm.trans ((congrFun (zC_n (by omega)) p).trans (zrow_td hp))
    · exact (zrow_at hp).symm.trans ((congrFun (zC_n (by omega)) p).trans (zrow_at hp))
    · rw [zrow_out hj, zrow_out hj]
theorem zrow_seth {σ : zSt} {b j : Nat} {x : Int32} (hj : j < 18) : zrow (zC σ (b + 1) (upd (σ (b + 1)) j x)) b = upd (zrow σ b) (5 + j) x := by
  refine zrow_ext (fun k hk => ?_) (fun k hk => ?_) (fun p hp => ?_) (fun p hp => ?_) (fun p hp => ?_) (fun p hp => ?_) (fun k hk => ?_)
  · rw [zupd_o (by omega), zrow_f hk, zrow_f hk, zC_n (by omega)]
  · rw [zrow_h hk, zC_s]
    by_cases e : k = j
    · subst e; rw [zupd_s, zupd_s]
    · rw [zupd_o e, zupd_o (by omega), zrow_h hk]
  · rw [zupd_o (by omega), ← zrow_kd hp, ← zrow_kd hp, zC_n (by omega)]
  · rw [zupd_o (by omega), ← zrow_fg hp, ← zrow_fg hp, zC_n (by omega)]
  · rw [zupd_o (by omega)]; exact (zrow_td hp).symm.trans ((congrFun (zC_n (by omega)) p).trans (zrow_td hp))
  · rw [zupd_o (by omega)]; exact (zrow_at hp).symm.trans ((congrFun (zC_n (by omega)) p).trans (zrow_at hp))
  · rw [zupd_o (by omega), zrow_out hk, zrow_out hk]
theorem zrow_sett {σ : zSt} {b q : Nat} {x : Int32} (hq : q < 6) : zrow (zC σ (b + 5) (upd (σ (b + 5)) q x)) b = upd (zrow σ b) (25 + 4 * q) x := by
  refine zrow_ext (fun k hk => ?_) (fun k hk => ?_) (fun p hp => ?_) (fun p hp => ?_) (fun p hp => ?_) (fun p hp => ?_) (fun k hk => ?_)
  · rw [zupd_o (by omega), zrow_f hk, zrow_f hk, zC_n (by omega)]
  · rw [zupd_o (by omega), zrow_h hk, zrow_h hk, zC_n (by omega)]
  · rw [zupd_o (by omega), ← zrow_kd hp, ← zrow_kd hp, zC_n (by omega)]
  · rw [zupd_o (by omega), ← zrow_fg hp, ← zrow_fg hp, zC_n (by omega)]
  · have e1 : zrow (zC σ (b + 5) (upd (σ (b + 5)) q x)) b (25 + 4 * p) = upd (σ (b + 5)) q x p := (zrow_td hp).symm.trans (congrFun zC_s p)
    rw [e1]
    by_cases e : p = q
    · subst e; rw [zupd_s, zupd_s]
    · rw [zupd_o e, zupd_o (by omega)]; exact zrow_td hp
  · rw [zupd_o (by omega)]; exact (zrow_at hp).symm.trans ((congrFun (zC_n (by omega)) p).trans (zrow_at hp))
  · rw [zupd_o (by omega), zrow_out hk, zrow_out hk]
/-- places, all at once -/
theorem zrow_seta {σ : zSt} {b : Nat} {f : Nat → Int32} : zrow (zC σ (b + 6) f) b = fun k => if 26 ≤ k ∧ k < 47 ∧ (k - 26) % 4 = 0 then f ((k - 26) / 4) else zrow σ b k := by
  refine zrow_ext (fun k hk => ?_) (fun k hk => ?_) (fun p hp => ?_) (fun p hp => ?_) (fun p hp => ?_) (fun p hp => ?_) (fun k hk => ?_)
  · rw [if_neg (by omega), zrow_f hk, zrow_f hk, zC_n (by omega)]
  · rw [if_neg (by omega), zrow_h hk, zrow_h hk, zC_n (by omega)]
  · rw [if_neg (by omega), ← zrow_kd hp, ← zrow_kd hp, zC_n (by omega)]
  · rw [if_neg (by omega), ← zrow_fg hp, ← zrow_fg hp, zC_n (by omega)]
  · rw [if_neg (by omega)]; exact (zrow_td hp).symm.trans ((congrFun (zC_n (by omega)) p).trans (zrow_td hp))
  · rw [if_pos (by omega), show (26 + 4 * p - 26) / 4 = p by omega]
    exact (zrow_at hp).symm.trans (congrFun zC_s p)
  · rw [if_neg (by omega), zrow_out hk, zrow_out hk]
theorem zC_C {σ : zSt} {i : Nat} {f g : Nat → Int32} : zC (zC σ i f) i g = zC σ i g := by
  funext a
  by_cases h : a = i
  · subst h; rw [zC_s, zC_s]
  · rw [zC_n h, zC_n h, zC_n h]
theorem zupd3 {r : zRw} {f : Nat} (h : Nat → Int32) : upd (upd (upd r (5 + (3 * f + 0)) (h (5 + 3 * f))) (5 + (3 * f + 1)) (h (5 + 3 * f + 1))) (5 + (3 * f + 2)) (h (5 + 3 * f + 2)) = fun k => if 5 + 3 * f ≤ k ∧ k < 8 + 3 * f then h k else r k := by
  funext k
  by_cases e2 : k = 5 + (3 * f + 2)
  · subst e2
    rw [zupd_s, if_pos (by omega)]; rfl
  · rw [zupd_o e2]
    by_cases e1 : k = 5 + (3 * f + 1)
    · subst e1
      rw [zupd_s, if_pos (by omega)]; rfl
    · rw [zupd_o e1]
      by_cases e0 : k = 5 + (3 * f + 0)
      · subst e0
        rw [zupd_s, if_pos (by omega)]; rfl
      · rw [zupd_o e0, if_neg (by omega)]
/-- land at b, and all else, but for what is told -/
def zOut (b : Nat) (σ τ : zSt) : Prop := ∀ c, (c < b ∨ b + 8 ≤ c) → τ c = σ c
theorem zOut.rf {b : Nat} {σ : zSt} : zOut b σ σ := fun _ _ => rfl
theorem zOut.tr {b : Nat} {σ τ υ : zSt} (h : zOut b σ τ) (k : zOut b τ υ) : zOut b σ υ := fun c hc => (k c hc).trans (h c hc)
theorem zOut.c {b i : Nat} {σ : zSt} {f : Nat → Int32} (hi : b ≤ i ∧ i < b + 8) : zOut b σ (zC σ i f) := fun c hc => zC_n (by omega)
def zU1 (r : zRw) (f : Nat) : zRw := fun k => if 5 + 3 * f ≤ k ∧ k < 8 + 3 * f then zhd (r k + nI 1) (nI 30) else r k

theorem s_X1_lieUntilled {n : Nat} {σ : zSt} {b : Nat} (hb : zLd b) {f : Nat} (hf : f < 6) : zSem (n + 2) mX1_lieUntilled [.ref b, .int (nI f)] σ (fun v τ => v = none ∧ zrow τ b = zU1 (zrow σ b) f ∧ ∀ c, c ≠ b + 1 → τ c = σ c) := by
  refine zSem.of (by decide +kernel) (Nat.le_of_ble_eq_true rfl) (fun X hB hR => ?_)
  show zW X 0 [some (.ref b), some (.int (nI f)), none] [] σ
  refine zw_iconst (x := nI 0) hB dX1_lieUntilled_0 (by decide) ?_
  refine zw_istore2 hB dX1_lieUntilled_1 rfl ?_
  refine zw_iload2 hB dX1_lieUntilled_2 ?_
  refine zw_iconst (x := nI 3) hB dX1_lieUntilled_3 (by decide) ?_
  refine zw_icmp_geN (tgt := 30) hB dX1_lieUntilled_4 (by decide) (by omega) (by omega) (fun c4 => by first | exact absurd c4 (by omega) | exact absurd (by omega) c4 | omega) (fun c4 => ?_)
  refine zw_aload0 hB dX1_lieUntilled_7 ?_
  refine zw_iload1 hB dX1_lieUntilled_8 ?_
  refine zw_iload2 hB dX1_lieUntilled_9 ?_
  refine zw_aload0 hB dX1_lieUntilled_10 ?_
  refine zw_iload1 hB dX1_lieUntilled_11 ?_
  refine zw_iload2 hB dX1_lieUntilled_12 ?_
  refine zw_callV2P (M' := mX1_heartOf) hB dX1_lieUntilled_13 zl_X1_63 zg_X1_heartOf (zRc.of hb.1 rfl rfl) (s_X1_heartOf hb hf (by omega)) ?_
  refine zw_eqI (y := zrow σ b (5 + 3 * f)) (zrow_g0 (by omega)) ?_
  refine zw_iconst (x := nI 1) hB dX1_lieUntilled_16 (by decide) ?_
  refine zw_iadd hB dX1_lieUntilled_17 ?_
  refine zw_callS1P (M' := mX1_asHeart) hB dX1_lieUntilled_18 zl_X1_104 zg_X1_asHeart (s_X1_asHeart _) ?_
  refine zw_callV3U (M' := mX1_setHeart) hB dX1_lieUntilled_21 zl_X1_55 zg_X1_setHeart (zRc.of hb.1 rfl rfl) (s_X1_setHeart hb _ hf (by omega)) ?_
  refine zw_iinc2 hB dX1_lieUntilled_24 (by first | exact zinc _ | rfl) rfl ?_
  refine zw_goto (tgt := 2) hB dX1_lieUntilled_27 (by decide) ?_
  refine zw_iload2 hB dX1_lieUntilled_2 ?_
  refine zw_iconst (x := nI 3) hB dX1_lieUntilled_3 (by decide) ?_
  refine zw_icmp_geN (tgt := 30) hB dX1_lieUntilled_4 (by decide) (by omega) (by omega) (fun c4 => by first | exact absurd c4 (by omega) | exact absurd (by omega) c4 | omega) (fun c4 => ?_)
  refine zw_aload0 hB dX1_lieUntilled_7 ?_
  refine zw_iload1 hB dX1_lieUntilled_8 ?_
  refine zw_iload2 hB dX1_lieUntilled_9 ?_
  refine zw_aload0 hB dX1_lieUntilled_10 ?_
  refine zw_iload1 hB dX1_lieUntilled_11 ?_
  refine zw_iload2 hB dX1_lieUntilled_12 ?_
  refine zw_callV2P (M' := mX1_heartOf) hB dX1_lieUntilled_13 zl_X1_63 zg_X1_heartOf (zRc.of hb.1 rfl rfl) (s_X1_heartOf hb hf (by omega)) ?_
  refine zw_eqI (y := zrow σ b (5 + 3 * f + 1)) ((zrow_hs (b := b) hf (by omega)).symm.trans (by rw [zrow_seth (by omega)]; exact zupd_o (by omega))) ?_
  refine zw_iconst (x := nI 1) hB dX1_lieUntilled_16 (by decide) ?_
  refine zw_iadd hB dX1_lieUntilled_17 ?_
  refine zw_callS1P (M' := mX1_asHeart) hB dX1_lieUntilled_18 zl_X1_104 zg_X1_asHeart (s_X1_asHeart _) ?_
  refine zw_callV3U (M' := mX1_setHeart) hB dX1_lieUntilled_21 zl_X1_55 zg_X1_setHeart (zRc.of hb.1 rfl rfl) (s_X1_setHeart hb _ hf (by omega)) ?_
  refine zw_iinc2 hB dX1_lieUntilled_24 (by first | exact zinc _ | rfl) rfl ?_
  refine zw_goto (tgt := 2) hB dX1_lieUntilled_27 (by decide) ?_
  refine zw_iload2 hB dX1_lieUntilled_2 ?_
  refine zw_iconst (x := nI 3) hB dX1_lieUntilled_3 (by decide) ?_
  refine zw_icmp_geN (tgt := 30) hB dX1_lieUntilled_4 (by decide) (by omega) (by omega) (fun c4 => by first | exact absurd c4 (by omega) | exact absurd (by omega) c4 | omega) (fun c4 => ?_)
  refine zw_aload0 hB dX1_lieUntilled_7 ?_
  refine zw_iload1 hB dX1_lieUntilled_8 ?_
  refine zw_iload2 hB dX1_lieUntilled_9 ?_
  refine zw_aload0 hB dX1_lieUntilled_10 ?_
  refine zw_iload1 hB dX1_lieUntilled_11 ?_
  refine zw_iload2 hB dX1_lieUntilled_12 ?_
  refine zw_callV2P (M' := mX1_heartOf) hB dX1_lieUntilled_13 zl_X1_63 zg_X1_heartOf (zRc.of hb.1 rfl rfl) (s_X1_heartOf hb hf (by omega)) ?_
  refine zw_eqI (y := zrow σ b (5 + 3 * f + 2)) ((zrow_hs (b := b) hf (by omega)).symm.trans (by rw [zrow_seth (by omega), zrow_seth (by omega), zupd_o (by omega)]; exact zupd_o (by omega))) ?_
  refine zw_iconst (x := nI 1) hB dX1_lieUntilled_16 (by decide) ?_
  refine zw_iadd hB dX1_lieUntilled_17 ?_
  refine zw_callS1P (M' := mX1_asHeart) hB dX1_lieUntilled_18 zl_X1_104 zg_X1_asHeart (s_X1_asHeart _) ?_
  refine zw_callV3U (M' := mX1_setHeart) hB dX1_lieUntilled_21 zl_X1_55 zg_X1_setHeart (zRc.of hb.1 rfl rfl) (s_X1_setHeart hb _ hf (by omega)) ?_
  refine zw_iinc2 hB dX1_lieUntilled_24 (by first | exact zinc _ | rfl) rfl ?_
  refine zw_goto (tgt := 2) hB dX1_lieUntilled_27 (by decide) ?_
  refine zw_iload2 hB dX1_lieUntilled_2 ?_
  refine zw_iconst (x := nI 3) hB dX1_lieUntilled_3 (by decide) ?_
  refine zw_icmp_geN (tgt := 30) hB dX1_lieUntilled_4 (by decide) (by omega) (by omega) (fun c4 => ?_) (fun c4 => by first | exact absurd (by omega) c4 | exact absurd c4 (by omega) | omega)
  refine zw_vret hB hR dX1_lieUntilled_30 rfl ?_
  refine ⟨rfl, ?_, fun c hc => by rw [zC_n hc, zC_n hc, zC_n hc]⟩
  rw [zrow_seth (by omega), zrow_seth (by omega), zrow_seth (by omega)]
  exact zupd3 (fun k => zhd (zrow σ b k + nI 1) (nI 30))
theorem zmin20 : ∀ t, t < 21 → ∀ k, k < 6 → (if nI t + ztr k < nI 20 then nI t + ztr k else nI 20) = zhd (nI t + ztr k) (nI 20) := by decide +kernel
theorem zmax5 : ∀ t, t < 21 → (if nI 0 < nI t - nI 5 then nI t - nI 5 else nI 0) = zhd (nI t - nI 5) (nI 20) := by decide +kernel
theorem zrow_congr' {σ τ : zSt} {b : Nat} (h0 : ∀ k, k < 5 → τ b k = σ b k) (h : ∀ c, b < c → c < b + 7 → c ≠ b + 2 → τ c = σ c) : zrow τ b = zrow σ b := by
  funext k
  unfold zrow
  by_cases hk : k < 5
  · rw [if_pos hk, if_pos hk, h0 k hk]
  · rw [if_neg hk, if_neg hk, h (b + 1) (by omega) (by omega) (by omega), h (b + 3) (by omega) (by omega) (by omega), h (b + 4) (by omega) (by omega) (by omega), h (b + 5) (by omega) (by omega) (by omega), h (b + 6) (by omega) (by omega) (by omega)]
theorem s_X1_till {n : Nat} {σ : zSt} {b F P : Nat} (hb : zLd b) (hg : zGd (zrow σ b) F P) {p : Nat} (hp : p < P) (hw : zwk (zrow σ b) p = true) : zSem (n + 2) mX1_till [.ref b, .int (nI p), .int (nI (zsf (zrow σ b) p))] σ (fun v τ => v = none ∧ zrow τ b = zT (zrow σ b) p ∧ τ b = upd (σ b) 5 (σ b 5 + zgw (zrow σ b) p) ∧ τ (b + 2) = upd (σ (b + 2)) (zsf (zrow σ b) p) (zgw (zrow σ b) p) ∧ τ (b + 7) = upd (σ (b + 7)) p (zgw (zrow σ b) p) ∧ zOut b σ τ) := by
  have hF6 := hg.F6
  have hP6 := hg.P6
  have hsf := hg.sf6 hp hw
  have hf6 : zsf (zrow σ b) p < 6 := by omega
  have hk1 : σ (b + 3) p = nI (zkd (zrow σ b) p) := (zrow_kd (by omega)).trans (hg.kd hp).1
  have hg1 : σ (b + 4) p = nI (zfg (zrow σ b) p) := (zrow_fg (by omega)).trans (hg.fg hp).1
  have hk6 := (hg.kd hp).2
  have hg9 := (hg.fg hp).2
  obtain ⟨t, ht, et⟩ := hg.td hp
  have ht1 : σ (b + 5) p = nI t := (zrow_td (by omega)).trans et
  refine zSem.of (by decide +kernel) (Nat.le_of_ble_eq_true rfl) (fun X hB hR => ?_)
  show zW X 0 [some (.ref b), some (.int (nI p)), some (.int (nI (zsf (zrow σ b) p))), none, none, none] [] σ
  refine zw_aload0 hB dX1_till_0 ?_
  refine zw_getfR hB dX1_till_1 zf_X1_22 hb.1 rfl ?_
  refine zw_iload1 hB dX1_till_4 ?_
  refine zw_ialdV (x := nI (zkd (zrow σ b) p)) hB dX1_till_5 hb.2.2.2.1 (by omega) (by decide) (hk1) ?_
  refine zw_aload0 hB dX1_till_6 ?_
  refine zw_iload2 hB dX1_till_7 ?_
  refine zw_iconst (x := nI 0) hB dX1_till_8 (by decide) ?_
  refine zw_callV2P (M' := mX1_heartOf) hB dX1_till_9 zl_X1_63 zg_X1_heartOf (zRc.of hb.1 rfl rfl) (s_X1_heartOf hb hf6 (by omega)) ?_
  refine zw_aload0 hB dX1_till_12 ?_
  refine zw_iload2 hB dX1_till_13 ?_
  refine zw_iconst (x := nI 1) hB dX1_till_14 (by decide) ?_
  refine zw_callV2P (M' := mX1_heartOf) hB dX1_till_15 zl_X1_63 zg_X1_heartOf (zRc.of hb.1 rfl rfl) (s_X1_heartOf hb hf6 (by omega)) ?_
  refine zw_callS3P (M' := mX0_growing) hB dX1_till_18 zl_X1_86 zg_X0_growing (s_X0_growing hk6 _ _) ?_
  refine zw_eqI (y := zgw (zrow σ b) p) (by unfold zgw; rw [if_pos hw, zrow_g0 (σ := σ) (b := b) hf6, zrow_g1 (σ := σ) (b := b) hf6]) ?_
  refine zw_istore3 hB dX1_till_21 rfl ?_
  refine zw_aload0 hB dX1_till_22 ?_
  refine zw_getfR hB dX1_till_23 zf_X1_34 hb.1 rfl ?_
  refine zw_iload1 hB dX1_till_26 ?_
  refine zw_iload3 hB dX1_till_27 ?_
  refine zw_iastN hB dX1_till_28 hb.2.2.2.2.2.2.2 (by omega) (by decide) ?_
  refine zw_aload0 hB dX1_till_29 ?_
  refine zw_getfR hB dX1_till_30 zf_X1_19 hb.1 rfl ?_
  refine zw_iload2 hB dX1_till_33 ?_
  refine zw_iload3 hB dX1_till_34 ?_
  refine zw_iastN hB dX1_till_35 hb.2.2.1 (by omega) (by decide) ?_
  refine zw_aload0 hB dX1_till_36 ?_
  refine zw_dup hB dX1_till_37 rfl ?_
  refine zw_getfV (x := σ b 5) hB dX1_till_38 zf_X1_110 hb.1 rfl (by rw [zC_n (by omega), zC_n (by omega)]) ?_
  refine zw_iload3 hB dX1_till_41 ?_
  refine zw_iadd hB dX1_till_42 ?_
  refine zw_putfI hB dX1_till_43 zfw_X1_110 hb.1 rfl ?_
  refine zw_gen (fun σ3 e3 => ?_)
  have z3 : zrow σ3 b = zrow σ b := by
    rw [e3]
    exact zrow_congr' (fun k hk => by rw [zC_s, zupd_o (by omega), zC_n (by omega), zC_n (by omega)]) (fun c h1 h2 h3 => by rw [zC_n (by omega), zC_n (by omega), zC_n (by omega)])
  have k3 : σ3 (b + 3) p = nI (zkd (zrow σ b) p) := by rw [e3, zC_n (by omega), zC_n (by omega), zC_n (by omega)]; exact hk1
  have g3 : σ3 (b + 4) p = nI (zfg (zrow σ b) p) := by rw [e3, zC_n (by omega), zC_n (by omega), zC_n (by omega)]; exact hg1
  have t3 : σ3 (b + 5) p = nI t := by rw [e3, zC_n (by omega), zC_n (by omega), zC_n (by omega)]; exact ht1
  have b3 : σ3 b = upd (σ b) 5 (σ b 5 + zgw (zrow σ b) p) := by rw [e3, zC_s, zC_n (by omega), zC_n (by omega)]
  have f3 : σ3 (b + 2) = upd (σ (b + 2)) (zsf (zrow σ b) p) (zgw (zrow σ b) p) := by rw [e3, zC_n (by omega), zC_s, zC_n (by omega)]
  have p3 : σ3 (b + 7) = upd (σ (b + 7)) p (zgw (zrow σ b) p) := by rw [e3, zC_n (by omega), zC_n (by omega), zC_s]
  have o3 : zOut b σ σ3 := by
    intro c hc
    rw [e3, zC_n (by omega), zC_n (by omega), zC_n (by omega)]
  clear e3
  refine zw_iconst (x := nI 0) hB dX1_till_46 (by decide) ?_
  refine zw_istore4 hB dX1_till_47 rfl ?_
  refine zw_iload4 hB dX1_till_49 ?_
  refine zw_iconst (x := nI 3) hB dX1_till_51 (by decide) ?_
  refine zw_icmp_geN (tgt := 100) hB dX1_till_52 (by decide) (by omega) (by omega) (fun c52 => by first | exact absurd c52 (by omega) | exact absurd (by omega) c52 | omega) (fun c52 => ?_)
  refine zw_aload0 hB dX1_till_55 ?_
  refine zw_getfR hB dX1_till_56 zf_X1_22 hb.1 rfl ?_
  refine zw_iload1 hB dX1_till_59 ?_
  refine zw_ialdV (x := nI (zkd (zrow σ b) p)) hB dX1_till_60 hb.2.2.2.1 (by omega) (by decide) (by first | exact k3 | (simp only [zC_n (show b + 3 ≠ b + 1 by omega)]; exact k3)) ?_
  refine zw_aload0 hB dX1_till_61 ?_
  refine zw_getfR hB dX1_till_62 zf_X1_25 hb.1 rfl ?_
  refine zw_iload1 hB dX1_till_65 ?_
  refine zw_ialdV (x := nI (zfg (zrow σ b) p)) hB dX1_till_66 hb.2.2.2.2.1 (by omega) (by decide) (by first | exact g3 | (simp only [zC_n (show b + 4 ≠ b + 1 by omega)]; exact g3)) ?_
  refine zw_iload4 hB dX1_till_67 ?_
  refine zw_callS3P (M' := mX0_giving) hB dX1_till_69 zl_X1_101 zg_X0_giving (s_X0_giving hk6 hg9 (by omega)) ?_
  refine zw_istore5 hB dX1_till_72 rfl ?_
  refine zw_aload0 hB dX1_till_74 ?_
  refine zw_iload2 hB dX1_till_75 ?_
  refine zw_iload4 hB dX1_till_76 ?_
  refine zw_aload0 hB dX1_till_78 ?_
  refine zw_iload2 hB dX1_till_79 ?_
  refine zw_iload4 hB dX1_till_80 ?_
  refine zw_callV2P (M' := mX1_heartOf) hB dX1_till_82 zl_X1_63 zg_X1_heartOf (zRc.of hb.1 rfl rfl) (s_X1_heartOf hb hf6 (by omega)) ?_
  refine zw_eqI (y := zrow σ b (5 + 3 * zsf (zrow σ b) p)) ((zrow_g0 (b := b) hf6).trans (by rw [z3])) ?_
  refine zw_iload5 hB dX1_till_85 ?_
  refine zw_iadd hB dX1_till_87 ?_
  refine zw_callS1P (M' := mX1_asHeart) hB dX1_till_88 zl_X1_104 zg_X1_asHeart (s_X1_asHeart _) ?_
  refine zw_callV3U (M' := mX1_setHeart) hB dX1_till_91 zl_X1_55 zg_X1_setHeart (zRc.of hb.1 rfl rfl) (s_X1_setHeart hb _ hf6 (by omega)) ?_
  refine zw_iinc4 hB dX1_till_94 (by first | exact zinc _ | rfl) rfl ?_
  refine zw_goto (tgt := 49) hB dX1_till_97 (by decide) ?_
  refine zw_iload4 hB dX1_till_49 ?_
  refine zw_iconst (x := nI 3) hB dX1_till_51 (by decide) ?_
  refine zw_icmp_geN (tgt := 100) hB dX1_till_52 (by decide) (by omega) (by omega) (fun c52 => by first | exact absurd c52 (by omega) | exact absurd (by omega) c52 | omega) (fun c52 => ?_)
  refine zw_aload0 hB dX1_till_55 ?_
  refine zw_getfR hB dX1_till_56 zf_X1_22 hb.1 rfl ?_
  refine zw_iload1 hB dX1_till_59 ?_
  refine zw_ialdV (x := nI (zkd (zrow σ b) p)) hB dX1_till_60 hb.2.2.2.1 (by omega) (by decide) (by first | exact k3 | (simp only [zC_n (show b + 3 ≠ b + 1 by omega)]; exact k3)) ?_
  refine zw_aload0 hB dX1_till_61 ?_
  refine zw_getfR hB dX1_till_62 zf_X1_25 hb.1 rfl ?_
  refine zw_iload1 hB dX1_till_65 ?_
  refine zw_ialdV (x := nI (zfg (zrow σ b) p)) hB dX1_till_66 hb.2.2.2.2.1 (by omega) (by decide) (by first | exact g3 | (simp only [zC_n (show b + 4 ≠ b + 1 by omega)]; exact g3)) ?_
  refine zw_iload4 hB dX1_till_67 ?_
  refine zw_callS3P (M' := mX0_giving) hB dX1_till_69 zl_X1_101 zg_X0_giving (s_X0_giving hk6 hg9 (by omega)) ?_
  refine zw_istore5 hB dX1_till_72 rfl ?_
  refine zw_aload0 hB dX1_till_74 ?_
  refine zw_iload2 hB dX1_till_75 ?_
  refine zw_iload4 hB dX1_till_76 ?_
  refine zw_aload0 hB dX1_till_78 ?_
  refine zw_iload2 hB dX1_till_79 ?_
  refine zw_iload4 hB dX1_till_80 ?_
  refine zw_callV2P (M' := mX1_heartOf) hB dX1_till_82 zl_X1_63 zg_X1_heartOf (zRc.of hb.1 rfl rfl) (s_X1_heartOf hb hf6 (by omega)) ?_
  refine zw_eqI (y := zrow σ b (5 + 3 * zsf (zrow σ b) p + 1)) ((zrow_hs (b := b) hf6 (by omega)).symm.trans (by rw [zrow_seth (by omega), zupd_o (by omega), z3])) ?_
  refine zw_iload5 hB dX1_till_85 ?_
  refine zw_iadd hB dX1_till_87 ?_
  refine zw_callS1P (M' := mX1_asHeart) hB dX1_till_88 zl_X1_104 zg_X1_asHeart (s_X1_asHeart _) ?_
  refine zw_callV3U (M' := mX1_setHeart) hB dX1_till_91 zl_X1_55 zg_X1_setHeart (zRc.of hb.1 rfl rfl) (s_X1_setHeart hb _ hf6 (by omega)) ?_
  refine zw_iinc4 hB dX1_till_94 (by first | exact zinc _ | rfl) rfl ?_
  refine zw_goto (tgt := 49) hB dX1_till_97 (by decide) ?_
  refine zw_iload4 hB dX1_till_49 ?_
  refine zw_iconst (x := nI 3) hB dX1_till_51 (by decide) ?_
  refine zw_icmp_geN (tgt := 100) hB dX1_till_52 (by decide) (by omega) (by omega) (fun c52 => by first | exact absurd c52 (by omega) | exact absurd (by omega) c52 | omega) (fun c52 => ?_)
  refine zw_aload0 hB dX1_till_55 ?_
  refine zw_getfR hB dX1_till_56 zf_X1_22 hb.1 rfl ?_
  refine zw_iload1 hB dX1_till_59 ?_
  refine zw_ialdV (x := nI (zkd (zrow σ b) p)) hB dX1_till_60 hb.2.2.2.1 (by omega) (by decide) (by first | exact k3 | (simp only [zC_n (show b + 3 ≠ b + 1 by omega)]; exact k3)) ?_
  refine zw_aload0 hB dX1_till_61 ?_
  refine zw_getfR hB dX1_till_62 zf_X1_25 hb.1 rfl ?_
  refine zw_iload1 hB dX1_till_65 ?_
  refine zw_ialdV (x := nI (zfg (zrow σ b) p)) hB dX1_till_66 hb.2.2.2.2.1 (by omega) (by decide) (by first | exact g3 | (simp only [zC_n (show b + 4 ≠ b + 1 by omega)]; exact g3)) ?_
  refine zw_iload4 hB dX1_till_67 ?_
  refine zw_callS3P (M' := mX0_giving) hB dX1_till_69 zl_X1_101 zg_X0_giving (s_X0_giving hk6 hg9 (by omega)) ?_
  refine zw_istore5 hB dX1_till_72 rfl ?_
  refine zw_aload0 hB dX1_till_74 ?_
  refine zw_iload2 hB dX1_till_75 ?_
  refine zw_iload4 hB dX1_till_76 ?_
  refine zw_aload0 hB dX1_till_78 ?_
  refine zw_iload2 hB dX1_till_79 ?_
  refine zw_iload4 hB dX1_till_80 ?_
  refine zw_callV2P (M' := mX1_heartOf) hB dX1_till_82 zl_X1_63 zg_X1_heartOf (zRc.of hb.1 rfl rfl) (s_X1_heartOf hb hf6 (by omega)) ?_
  refine zw_eqI (y := zrow σ b (5 + 3 * zsf (zrow σ b) p + 2)) ((zrow_hs (b := b) hf6 (by omega)).symm.trans (by rw [zrow_seth (by omega), zrow_seth (by omega), zupd_o (by omega), zupd_o (by omega), z3])) ?_
  refine zw_iload5 hB dX1_till_85 ?_
  refine zw_iadd hB dX1_till_87 ?_
  refine zw_callS1P (M' := mX1_asHeart) hB dX1_till_88 zl_X1_104 zg_X1_asHeart (s_X1_asHeart _) ?_
  refine zw_callV3U (M' := mX1_setHeart) hB dX1_till_91 zl_X1_55 zg_X1_setHeart (zRc.of hb.1 rfl rfl) (s_X1_setHeart hb _ hf6 (by omega)) ?_
  refine zw_iinc4 hB dX1_till_94 (by first | exact zinc _ | rfl) rfl ?_
  refine zw_goto (tgt := 49) hB dX1_till_97 (by decide) ?_
  refine zw_iload4 hB dX1_till_49 ?_
  refine zw_iconst (x := nI 3) hB dX1_till_51 (by decide) ?_
  refine zw_icmp_geN (tgt := 100) hB dX1_till_52 (by decide) (by omega) (by omega) (fun c52 => ?_) (fun c52 => by first | exact absurd (by omega) c52 | exact absurd c52 (by omega) | omega)
  refine zw_aload0 hB dX1_till_100 ?_
  refine zw_getfR hB dX1_till_101 zf_X1_28 hb.1 rfl ?_
  refine zw_iload1 hB dX1_till_104 ?_
  refine zw_bipush (x := nI 20) hB dX1_till_105 (by decide) ?_
  refine zw_aload0 hB dX1_till_107 ?_
  refine zw_getfR hB dX1_till_108 zf_X1_28 hb.1 rfl ?_
  refine zw_iload1 hB dX1_till_111 ?_
  refine zw_ialdV (x := nI t) hB dX1_till_112 hb.2.2.2.2.2.1 (by omega) (by decide) (by first | exact t3 | (simp only [zC_n (show b + 5 ≠ b + 1 by omega)]; exact t3)) ?_
  refine zw_aload0 hB dX1_till_113 ?_
  refine zw_getfR hB dX1_till_114 zf_X1_22 hb.1 rfl ?_
  refine zw_iload1 hB dX1_till_117 ?_
  refine zw_ialdV (x := nI (zkd (zrow σ b) p)) hB dX1_till_118 hb.2.2.2.1 (by omega) (by decide) (by first | exact k3 | (simp only [zC_n (show b + 3 ≠ b + 1 by omega)]; exact k3)) ?_
  refine zw_callS1P (M' := mX0_tiring) hB dX1_till_119 zl_X1_130 zg_X0_tiring (s_X0_tiring hk6) ?_
  refine zw_iadd hB dX1_till_122 ?_
  refine zw_min hB dX1_till_123 zl_X1_77 (by first | exact Nat.le_of_ble_eq_true rfl | decide) ?_
  refine zw_iastN hB dX1_till_126 hb.2.2.2.2.2.1 (by omega) (by decide) ?_
  refine zw_vret hB hR dX1_till_127 rfl ?_
  refine ⟨rfl, ?_, by rw [zC_n (by omega), zC_n (by omega), zC_n (by omega), zC_n (by omega)]; exact b3, by rw [zC_n (by omega), zC_n (by omega), zC_n (by omega), zC_n (by omega)]; exact f3, by rw [zC_n (by omega), zC_n (by omega), zC_n (by omega), zC_n (by omega)]; exact p3, fun c hc => by rw [zC_n (by omega), zC_n (by omega), zC_n (by omega), zC_n (by omega)]; exact o3 c hc⟩
  rw [zrow_sett (by omega), zrow_seth (by omega), zrow_seth (by omega), zrow_seth (by omega), z3, zmin20 t (by omega) _ hk6]
  have e3 := zupd3 (r := zrow σ b) (f := zsf (zrow σ b) p) (fun k => zhd (zrow σ b k + zgv (zkd (zrow σ b) p) (zfg (zrow σ b) p) (k - (5 + 3 * zsf (zrow σ b) p))) (nI 30))
  simp only [show 5 + 3 * zsf (zrow σ b) p - (5 + 3 * zsf (zrow σ b) p) = 0 by omega, show 5 + 3 * zsf (zrow σ b) p + 1 - (5 + 3 * zsf (zrow σ b) p) = 1 by omega, show 5 + 3 * zsf (zrow σ b) p + 2 - (5 + 3 * zsf (zrow σ b) p) = 2 by omega] at e3
  rw [← et, e3]
  funext k
  rw [zT_kw hw]
  by_cases e : k = 25 + 4 * p
  · subst e
    rw [zupd_s, if_pos rfl]
  · rw [zupd_o e, if_neg e]
