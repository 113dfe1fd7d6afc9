/-! LEAVES of the class: lands' reads and writes; kinds; words of refusal -/
def zLd (b : Nat) : Prop := zLY[b]? = some (.inr (0, [none, none, none, none, none, none, some (b + 1), some (b + 2), some (b + 3), some (b + 4), some (b + 5), some (b + 6), some (b + 7)])) ∧ zLY[b + 1]? = some (.inl 18) ∧ zLY[b + 2]? = some (.inl 6) ∧ zLY[b + 3]? = some (.inl 6) ∧ zLY[b + 4]? = some (.inl 6) ∧ zLY[b + 5]? = some (.inl 6) ∧ zLY[b + 6]? = some (.inl 6) ∧ zLY[b + 7]? = some (.inl 6)
theorem zld1 : zLd 1 := ⟨rfl, rfl, rfl, rfl, rfl, rfl, rfl, rfl⟩
theorem zld9 : zLd 9 := ⟨rfl, rfl, rfl, rfl, rfl, rfl, rfl, rfl⟩
theorem zld17 : zLd 17 := ⟨rfl, rfl, rfl, rfl, rfl, rfl, rfl, rfl⟩
theorem zld28 : zLd 28 := ⟨rfl, rfl, rfl, rfl, rfl, rfl, rfl, rfl⟩
theorem zld36 : zLd 36 := ⟨rfl, rfl, rfl, rfl, rfl, rfl, rfl, rfl⟩
/-- an answer, and nothing changed -/
def zP (σ : zSt) (r : Value) : Option Value → zSt → Prop := fun v τ => v = some r ∧ τ = σ
/-- no answer, and the world is σ -/
def zU (σ : zSt) : Option Value → zSt → Prop := fun v τ => v = none ∧ τ = σ
def zb (c : Prop) [Decidable c] : Int32 := if c then 1 else 0
theorem vp_ge {x : Int32} {n : Nat} (hn : n < 2 ^ 31) (h0 : ¬ x < 0) (h1 : ¬ nI n ≤ x) : vp_in x n := by
  obtain ⟨j, hj, rfl⟩ := nI_of h0
  exact vp_in_nI (Nat.lt_of_not_le fun q => h1 (nI_le q hj)) hn

theorem s_X1_hasFarm {n : Nat} {σ : zSt} {b : Nat} (hb : zLd b) (f : Int32) : zSem n mX1_hasFarm [.ref b, .int f] σ (zP σ (.int (zb (¬ f < 0 ∧ ¬ σ b 0 ≤ f)))) := by
  refine zSem.of (by decide +kernel) (Nat.le_of_ble_eq_true rfl) (fun X hB hR => ?_)
  show zW X 0 [some (.ref b), some (.int f)] [] σ
  refine zw_iload1 hB dX1_hasFarm_0 ?_
  refine zw_if_lt (tgt := 16) hB dX1_hasFarm_1 (by decide) (fun c1 => ?_) (fun c1 => ?_)
  · refine zw_iconst (x := 0) hB dX1_hasFarm_16 (by decide) ?_
    refine zw_zret hB hR dX1_hasFarm_17 rfl (by decide) ?_
    exact ⟨by simp [zb, *], rfl⟩
  · refine zw_iload1 hB dX1_hasFarm_4 ?_
    refine zw_aload0 hB dX1_hasFarm_5 ?_
    refine zw_getfI hB dX1_hasFarm_6 zf_X1_37 hb.1 rfl ?_
    refine zw_icmp_ge (tgt := 16) hB dX1_hasFarm_9 (by decide) (fun c9 => ?_) (fun c9 => ?_)
    · refine zw_iconst (x := 0) hB dX1_hasFarm_16 (by decide) ?_
      refine zw_zret hB hR dX1_hasFarm_17 rfl (by decide) ?_
      exact ⟨by simp [zb, *], rfl⟩
    · refine zw_iconst (x := 1) hB dX1_hasFarm_12 (by decide) ?_
      refine zw_goto (tgt := 17) hB dX1_hasFarm_13 (by decide) ?_
      refine zw_zret hB hR dX1_hasFarm_17 rfl (by decide) ?_
      exact ⟨by simp [zb, *], rfl⟩
theorem s_X1_hasFarmer {n : Nat} {σ : zSt} {b : Nat} (hb : zLd b) (f : Int32) : zSem n mX1_hasFarmer [.ref b, .int f] σ (zP σ (.int (zb (¬ f < 0 ∧ ¬ σ b 1 ≤ f)))) := by
  refine zSem.of (by decide +kernel) (Nat.le_of_ble_eq_true rfl) (fun X hB hR => ?_)
  show zW X 0 [some (.ref b), some (.int f)] [] σ
  refine zw_iload1 hB dX1_hasFarmer_0 ?_
  refine zw_if_lt (tgt := 16) hB dX1_hasFarmer_1 (by decide) (fun c1 => ?_) (fun c1 => ?_)
  · refine zw_iconst (x := 0) hB dX1_hasFarmer_16 (by decide) ?_
    refine zw_zret hB hR dX1_hasFarmer_17 rfl (by decide) ?_
    exact ⟨by simp [zb, *], rfl⟩
  · refine zw_iload1 hB dX1_hasFarmer_4 ?_
    refine zw_aload0 hB dX1_hasFarmer_5 ?_
    refine zw_getfI hB dX1_hasFarmer_6 zf_X1_40 hb.1 rfl ?_
    refine zw_icmp_ge (tgt := 16) hB dX1_hasFarmer_9 (by decide) (fun c9 => ?_) (fun c9 => ?_)
    · refine zw_iconst (x := 0) hB dX1_hasFarmer_16 (by decide) ?_
      refine zw_zret hB hR dX1_hasFarmer_17 rfl (by decide) ?_
      exact ⟨by simp [zb, *], rfl⟩
    · refine zw_iconst (x := 1) hB dX1_hasFarmer_12 (by decide) ?_
      refine zw_goto (tgt := 17) hB dX1_hasFarmer_13 (by decide) ?_
      refine zw_zret hB hR dX1_hasFarmer_17 rfl (by decide) ?_
      exact ⟨by simp [zb, *], rfl⟩
theorem s_X1_hasSort {n : Nat} {σ : zSt} (f : Int32) : zSem n mX1_hasSort [.int f] σ (zP σ (.int (zb (¬ f < 0 ∧ ¬ 3 ≤ f)))) := by
  refine zSem.of (by decide +kernel) (Nat.le_of_ble_eq_true rfl) (fun X hB hR => ?_)
  show zW X 0 [some (.int f)] [] σ
  refine zw_iload0 hB dX1_hasSort_0 ?_
  refine zw_if_lt (tgt := 13) hB dX1_hasSort_1 (by decide) (fun c1 => ?_) (fun c1 => ?_)
  · refine zw_iconst (x := 0) hB dX1_hasSort_13 (by decide) ?_
    refine zw_zret hB hR dX1_hasSort_14 rfl (by decide) ?_
    exact ⟨by simp [zb, *], rfl⟩
  · refine zw_iload0 hB dX1_hasSort_4 ?_
    refine zw_iconst (x := 3) hB dX1_hasSort_5 (by decide) ?_
    refine zw_icmp_ge (tgt := 13) hB dX1_hasSort_6 (by decide) (fun c6 => ?_) (fun c6 => ?_)
    · refine zw_iconst (x := 0) hB dX1_hasSort_13 (by decide) ?_
      refine zw_zret hB hR dX1_hasSort_14 rfl (by decide) ?_
      exact ⟨by simp [zb, *], rfl⟩
    · refine zw_iconst (x := 1) hB dX1_hasSort_9 (by decide) ?_
      refine zw_goto (tgt := 14) hB dX1_hasSort_10 (by decide) ?_
      refine zw_zret hB hR dX1_hasSort_14 rfl (by decide) ?_
      exact ⟨by simp [zb, *], rfl⟩
theorem s_X1_hasYears {n : Nat} {σ : zSt} {b : Nat} (hb : zLd b) (f : Int32) : zSem n mX1_hasYears [.ref b, .int f] σ (zP σ (.int (zb (f ≤ 999 - σ b 4)))) := by
  refine zSem.of (by decide +kernel) (Nat.le_of_ble_eq_true rfl) (fun X hB hR => ?_)
  show zW X 0 [some (.ref b), some (.int f)] [] σ
  refine zw_iload1 hB dX1_hasYears_0 ?_
  refine zw_sipush (x := 999) hB dX1_hasYears_1 (by decide) ?_
  refine zw_aload0 hB dX1_hasYears_4 ?_
  refine zw_getfI hB dX1_hasYears_5 zf_X1_46 hb.1 rfl ?_
  refine zw_isub hB dX1_hasYears_8 ?_
  refine zw_icmp_gt (tgt := 16) hB dX1_hasYears_9 (by decide) (fun c9 => ?_) (fun c9 => ?_)
  · refine zw_iconst (x := 0) hB dX1_hasYears_16 (by decide) ?_
    refine zw_zret hB hR dX1_hasYears_17 rfl (by decide) ?_
    exact ⟨by simp [zb, *], rfl⟩
  · refine zw_iconst (x := 1) hB dX1_hasYears_12 (by decide) ?_
    refine zw_goto (tgt := 17) hB dX1_hasYears_13 (by decide) ?_
    refine zw_zret hB hR dX1_hasYears_17 rfl (by decide) ?_
    exact ⟨by simp [zb, *], rfl⟩
def zHt (σ : zSt) (b : Nat) (f s : Int32) : Int32 := if ¬ 3 * f + s < 0 ∧ ¬ nI 18 ≤ 3 * f + s then σ (b + 1) (3 * f + s).toNatClampNeg else 0
theorem s_X1_heartOf {n : Nat} {σ : zSt} {b : Nat} (hb : zLd b) (f s : Int32) : zSem n mX1_heartOf [.ref b, .int f, .int s] σ (zP σ (.int (zHt σ b f s))) := by
  refine zSem.of (by decide +kernel) (Nat.le_of_ble_eq_true rfl) (fun X hB hR => ?_)
  show zW X 0 [some (.ref b), some (.int f), some (.int s), none] [] σ
  refine zw_iconst (x := 3) hB dX1_heartOf_0 (by decide) ?_
  refine zw_iload1 hB dX1_heartOf_1 ?_
  refine zw_imul hB dX1_heartOf_2 ?_
  refine zw_iload2 hB dX1_heartOf_3 ?_
  refine zw_iadd hB dX1_heartOf_4 ?_
  refine zw_istore3 hB dX1_heartOf_5 rfl ?_
  refine zw_iload3 hB dX1_heartOf_6 ?_
  refine zw_if_lt (tgt := 28) hB dX1_heartOf_7 (by decide) (fun c7 => ?_) (fun c7 => ?_)
  · refine zw_iconst (x := 0) hB dX1_heartOf_28 (by decide) ?_
    refine zw_iret hB hR dX1_heartOf_29 rfl ?_
    exact ⟨by simp [zHt, *], rfl⟩
  · refine zw_iload3 hB dX1_heartOf_10 ?_
    refine zw_aload0 hB dX1_heartOf_11 ?_
    refine zw_getfR hB dX1_heartOf_12 zf_X1_15 hb.1 rfl ?_
    refine zw_alen hB dX1_heartOf_15 hb.2.1 ?_
    refine zw_icmp_ge (tgt := 28) hB dX1_heartOf_16 (by decide) (fun c16 => ?_) (fun c16 => ?_)
    · refine zw_iconst (x := 0) hB dX1_heartOf_28 (by decide) ?_
      refine zw_iret hB hR dX1_heartOf_29 rfl ?_
      exact ⟨by simp [zHt, *], rfl⟩
    · refine zw_aload0 hB dX1_heartOf_19 ?_
      refine zw_getfR hB dX1_heartOf_20 zf_X1_15 hb.1 rfl ?_
      refine zw_iload3 hB dX1_heartOf_23 ?_
      refine zw_iald hB dX1_heartOf_24 hb.2.1 (vp_ge (by decide) c7 c16) ?_
      refine zw_goto (tgt := 29) hB dX1_heartOf_25 (by decide) ?_
      refine zw_iret hB hR dX1_heartOf_29 rfl ?_
      exact ⟨by simp [zHt, *], rfl⟩
def zHs (σ : zSt) (b : Nat) (f s v : Int32) : zSt := if ¬ 3 * f + s < 0 ∧ ¬ nI 18 ≤ 3 * f + s then zC σ (b + 1) (upd (σ (b + 1)) (3 * f + s).toNatClampNeg v) else σ
theorem s_X1_setHeart {n : Nat} {σ : zSt} {b : Nat} (hb : zLd b) (f s v : Int32) : zSem n mX1_setHeart [.ref b, .int f, .int s, .int v] σ (zU (zHs σ b f s v)) := by
  refine zSem.of (by decide +kernel) (Nat.le_of_ble_eq_true rfl) (fun X hB hR => ?_)
  show zW X 0 [some (.ref b), some (.int f), some (.int s), some (.int v), none] [] σ
  refine zw_iconst (x := 3) hB dX1_setHeart_0 (by decide) ?_
  refine zw_iload1 hB dX1_setHeart_1 ?_
  refine zw_imul hB dX1_setHeart_2 ?_
  refine zw_iload2 hB dX1_setHeart_3 ?_
  refine zw_iadd hB dX1_setHeart_4 ?_
  refine zw_istore4 hB dX1_setHeart_5 rfl ?_
  refine zw_iload4 hB dX1_setHeart_7 ?_
  refine zw_if_lt (tgt := 30) hB dX1_setHeart_9 (by decide) (fun c9 => ?_) (fun c9 => ?_)
  · refine zw_vret hB hR dX1_setHeart_30 rfl ?_
    exact ⟨rfl, by simp [zHs, *]⟩
  · refine zw_iload4 hB dX1_setHeart_12 ?_
    refine zw_aload0 hB dX1_setHeart_14 ?_
    refine zw_getfR hB dX1_setHeart_15 zf_X1_15 hb.1 rfl ?_
    refine zw_alen hB dX1_setHeart_18 hb.2.1 ?_
    refine zw_icmp_ge (tgt := 30) hB dX1_setHeart_19 (by decide) (fun c19 => ?_) (fun c19 => ?_)
    · refine zw_vret hB hR dX1_setHeart_30 rfl ?_
      exact ⟨rfl, by simp [zHs, *]⟩
    · refine zw_aload0 hB dX1_setHeart_22 ?_
      refine zw_getfR hB dX1_setHeart_23 zf_X1_15 hb.1 rfl ?_
      refine zw_iload4 hB dX1_setHeart_26 ?_
      refine zw_iload3 hB dX1_setHeart_28 ?_
      refine zw_iast hB dX1_setHeart_29 hb.2.1 (vp_ge (by decide) ‹_› ‹_›) ?_
      refine zw_vret hB hR dX1_setHeart_30 rfl ?_
      exact ⟨rfl, by simp [zHs, *]⟩
theorem s_X1_isWorn {n : Nat} {σ : zSt} {b : Nat} (hb : zLd b) (f : Int32) (hi : vp_in f 6) : zSem n mX1_isWorn [.ref b, .int f] σ (zP σ (.int (zb (¬ σ (b + 5) f.toNatClampNeg < 10)))) := by
  refine zSem.of (by decide +kernel) (Nat.le_of_ble_eq_true rfl) (fun X hB hR => ?_)
  show zW X 0 [some (.ref b), some (.int f)] [] σ
  refine zw_aload0 hB dX1_isWorn_0 ?_
  refine zw_getfR hB dX1_isWorn_1 zf_X1_28 hb.1 rfl ?_
  refine zw_iload1 hB dX1_isWorn_4 ?_
  refine zw_iald hB dX1_isWorn_5 hb.2.2.2.2.2.1 hi ?_
  refine zw_bipush (x := 10) hB dX1_isWorn_6 (by decide) ?_
  refine zw_icmp_lt (tgt := 15) hB dX1_isWorn_8 (by decide) (fun c8 => ?_) (fun c8 => ?_)
  · refine zw_iconst (x := 0) hB dX1_isWorn_15 (by decide) ?_
    refine zw_zret hB hR dX1_isWorn_16 rfl (by decide) ?_
    exact ⟨by simp [zb, *], rfl⟩
  · refine zw_iconst (x := 1) hB dX1_isWorn_11 (by decide) ?_
    refine zw_goto (tgt := 16) hB dX1_isWorn_12 (by decide) ?_
    refine zw_zret hB hR dX1_isWorn_16 rfl (by decide) ?_
    exact ⟨by simp [zb, *], rfl⟩
def zAH (v : Int32) : Int32 := if 0 < (if v < 30 then v else 30) then (if v < 30 then v else 30) else 0
theorem s_X1_asHeart {n : Nat} {σ : zSt} (v : Int32) : zSem (n + 1) mX1_asHeart [.int v] σ (zP σ (.int (zAH v))) := by
  refine zSem.of (by decide +kernel) (Nat.le_of_ble_eq_true rfl) (fun X hB hR => ?_)
  show zW X 0 [some (.int v)] [] σ
  refine zw_iconst (x := 0) hB dX1_asHeart_0 (by decide) ?_
  refine zw_bipush (x := 30) hB dX1_asHeart_1 (by decide) ?_
  refine zw_iload0 hB dX1_asHeart_3 ?_
  refine zw_min hB dX1_asHeart_4 zl_X1_77 (by first | exact Nat.le_of_ble_eq_true rfl | decide) ?_
  refine zw_max hB dX1_asHeart_7 zl_X1_120 (by first | exact Nat.le_of_ble_eq_true rfl | decide) ?_
  refine zw_iret hB hR dX1_asHeart_10 rfl ?_
  exact ⟨by simp [zAH], rfl⟩
