/-! REFERENCE: leaves -/
/-- the row in the reference's cell c -/
def zro (σ : zSt) (c : Nat) : zRw := fun k => if k < 47 then σ c k else 0
theorem zro_k {σ : zSt} {c k : Nat} (h : k < 47) : zro σ c k = σ c k := if_pos h
theorem zro_out {σ : zSt} {c k : Nat} (h : 47 ≤ k) : zro σ c k = 0 := if_neg (by omega)
theorem zro_C {σ : zSt} {c : Nat} {f : Nat → Int32} : zro (zC σ c f) c = fun k => if k < 47 then f k else 0 := by
  funext k
  unfold zro
  rw [zC_s]
theorem zro_set {σ : zSt} {c k : Nat} {x : Int32} (hk : k < 47) : zro (zC σ c (upd (σ c) k x)) c = upd (zro σ c) k x := by
  funext j
  unfold zro
  rw [zC_s]
  by_cases e : j = k
  · subst e; rw [zupd_s, zupd_s, if_pos hk]
  · rw [zupd_o e, zupd_o e]
theorem zro_n {σ : zSt} {c i : Nat} {f : Nat → Int32} (h : c ≠ i) : zro (zC σ i f) c = zro σ c := by
  funext j
  unfold zro
  rw [zC_n h]
theorem zro_congr {σ τ : zSt} {c d : Nat} (h : τ c = σ d) : zro τ c = zro σ d := by
  funext j
  unfold zro
  rw [h]
theorem zro_at {σ : zSt} {c p : Nat} (hp : p < 6) : σ c (23 + 4 * p + 3) = zat (zro σ c) p := by
  rw [zat, zro_k (by omega)]; congr 1; omega
theorem zro_td {σ : zSt} {c p : Nat} (hp : p < 6) : σ c (23 + 4 * p + 2) = ztd (zro σ c) p := by
  rw [ztd, zro_k (by omega)]; congr 1; omega
theorem zro_fg {σ : zSt} {c p : Nat} (hp : p < 6) : σ c (23 + 4 * p + 1) = zro σ c (24 + 4 * p) := by
  rw [zro_k (by omega)]; congr 1; omega
theorem zro_kd {σ : zSt} {c p : Nat} (hp : p < 6) : σ c (23 + 4 * p + 0) = zro σ c (23 + 4 * p) := by
  rw [zro_k (by omega)]; rfl
/-- the hearts of farm f as kind k with figure g leaves them -/
def zTl (r : zRw) (k g f : Nat) : zRw := fun j => if 5 + 3 * f ≤ j ∧ j < 8 + 3 * f then zhd (r j + zgv k g (j - (5 + 3 * f))) (nI 30) else r j
theorem zhd_id {t : Nat} (ht : t ≤ 30) : zhd (nI t + 0) (nI 30) = nI t := by
  rw [Int32.add_zero, zhd_n (by omega) (by omega), if_neg (by omega)]
theorem zTl_of {σ : zSt} {c k g f : Nat} {h : Nat → Int32} (hf : f < 6) (h3 : ∀ s, s < 3 → h (5 + 3 * f + s) = zhd (σ c (5 + 3 * f + s) + zgv k g s) (nI 30)) (ho : ∀ j, ¬ (5 + 3 * f ≤ j ∧ j < 8 + 3 * f) → h j = σ c j) : zro (zC σ c h) c = zTl (zro σ c) k g f := by
  rw [zro_C]
  funext j
  unfold zTl
  by_cases e : 5 + 3 * f ≤ j ∧ j < 8 + 3 * f
  · rw [if_pos e, if_pos (by omega), zro_k (by omega)]
    have := h3 (j - (5 + 3 * f)) (by omega)
    rwa [show 5 + 3 * f + (j - (5 + 3 * f)) = j by omega] at this
  · rw [if_neg e, ho j e]; rfl
theorem zgv4 : ∀ g, g < 10 → ∀ s, s < 3 → zgv 4 g s = nI (g / 3 + 1 + 0) := by decide +kernel
theorem zgv5a : ∀ g, g < 10 → zgv 5 g 0 = nI (g / 3 + 1 + 2) := by decide +kernel
theorem zgv5 : ∀ g, g < 10 → ∀ s, s < 3 → 0 < s → zgv 5 g s = nI (g / 3 + 1 + 0) := by decide +kernel
theorem zdec1 {F : Nat} : nI F - nI 1 = nI F + -1 := Int32.sub_eq_add_neg _ _
/-- v is one of 0 .. N - 1, as the reference tests it -/
theorem zisin {v : Int32} {N : Nat} (hN : N < 2 ^ 30) : (nI 0 ≤ v ∧ v ≤ nI N - nI 1) ↔ (¬ v < 0 ∧ ¬ nI N ≤ v) := by
  have e0 : (nI 0).toInt = 0 := by decide
  have z0 : (0 : Int32).toInt = 0 := by decide
  have eN : (nI N).toInt = N := nI_toInt (by omega)
  have e1 : (nI N - nI 1).toInt = (N : Int) - 1 := by
    have := pk_sub_toInt (a := N) (b := 1) hN (by omega)
    simpa using this
  rw [Int32.le_iff_toInt_le, Int32.le_iff_toInt_le, Int32.lt_iff_toInt_lt, Int32.le_iff_toInt_le, e0, z0, eN, e1]
  omega

theorem s_X6_isIn {n : Nat} {σ : zSt}  (v a c : Int32) : zSem n mX6_isIn [.int v, .int a, .int c] σ (zP σ (.int (zb (a ≤ v ∧ v ≤ c)))) := by
  refine zSem.of (by decide +kernel) (Nat.le_of_ble_eq_true rfl) (fun X hB hR => ?_)
  show zW X 0 [some (.int v), some (.int a), some (.int c)] [] σ
  refine zw_iload0 hB dX6_isIn_0 ?_
  refine zw_iload1 hB dX6_isIn_1 ?_
  refine zw_icmp_lt (tgt := 14) hB dX6_isIn_2 (by decide) (fun c2 => ?_) (fun c2 => ?_)
  · refine zw_iconst (x := nI 0) hB dX6_isIn_14 (by decide) ?_
    refine zw_zret hB hR dX6_isIn_15 rfl (by decide) ?_
    first | exact zP_t ⟨Int32.not_lt.mp ‹_›, Int32.not_lt.mp ‹_›⟩ | exact zP_f (fun q => absurd q.1 (Int32.not_le.mpr ‹_›)) | exact zP_f (fun q => absurd q.2 (Int32.not_le.mpr ‹_›))
  · refine zw_iload0 hB dX6_isIn_5 ?_
    refine zw_iload2 hB dX6_isIn_6 ?_
    refine zw_icmp_gt (tgt := 14) hB dX6_isIn_7 (by decide) (fun c7 => ?_) (fun c7 => ?_)
    · refine zw_iconst (x := nI 0) hB dX6_isIn_14 (by decide) ?_
      refine zw_zret hB hR dX6_isIn_15 rfl (by decide) ?_
      first | exact zP_t ⟨Int32.not_lt.mp ‹_›, Int32.not_lt.mp ‹_›⟩ | exact zP_f (fun q => absurd q.1 (Int32.not_le.mpr ‹_›)) | exact zP_f (fun q => absurd q.2 (Int32.not_le.mpr ‹_›))
    · refine zw_iconst (x := nI 1) hB dX6_isIn_10 (by decide) ?_
      refine zw_goto (tgt := 15) hB dX6_isIn_11 (by decide) ?_
      refine zw_zret hB hR dX6_isIn_15 rfl (by decide) ?_
      first | exact zP_t ⟨Int32.not_lt.mp ‹_›, Int32.not_lt.mp ‹_›⟩ | exact zP_f (fun q => absurd q.1 (Int32.not_le.mpr ‹_›)) | exact zP_f (fun q => absurd q.2 (Int32.not_le.mpr ‹_›))
theorem s_X6_held {n : Nat} {σ : zSt}  (v m : Int32) : zSem n mX6_held [.int v, .int m] σ (zP σ (.int (zhd v m))) := by
  refine zSem.of (by decide +kernel) (Nat.le_of_ble_eq_true rfl) (fun X hB hR => ?_)
  show zW X 0 [some (.int v), some (.int m)] [] σ
  refine zw_iload0 hB dX6_held_0 ?_
  refine zw_if_ge (tgt := 8) hB dX6_held_1 (by decide) (fun c1 => ?_) (fun c1 => ?_)
  · refine zw_iload0 hB dX6_held_8 ?_
    refine zw_iload1 hB dX6_held_9 ?_
    refine zw_icmp_le (tgt := 17) hB dX6_held_10 (by decide) (fun c10 => ?_) (fun c10 => ?_)
    · refine zw_iload0 hB dX6_held_17 ?_
      refine zw_iret hB hR dX6_held_18 rfl ?_
      exact ⟨by unfold zhd; first | (rw [if_pos (Int32.not_le.mp c1)]; rfl) | (rw [if_neg (Int32.not_lt.mpr c1), if_pos (Int32.not_le.mp c10)]) | (rw [if_neg (Int32.not_lt.mpr c1), if_neg (Int32.not_lt.mpr c10)]), rfl⟩
    · refine zw_iload1 hB dX6_held_13 ?_
      refine zw_goto (tgt := 18) hB dX6_held_14 (by decide) ?_
      refine zw_iret hB hR dX6_held_18 rfl ?_
      exact ⟨by unfold zhd; first | (rw [if_pos (Int32.not_le.mp c1)]; rfl) | (rw [if_neg (Int32.not_lt.mpr c1), if_pos (Int32.not_le.mp c10)]) | (rw [if_neg (Int32.not_lt.mpr c1), if_neg (Int32.not_lt.mpr c10)]), rfl⟩
  · refine zw_iconst (x := nI 0) hB dX6_held_4 (by decide) ?_
    refine zw_goto (tgt := 18) hB dX6_held_5 (by decide) ?_
    refine zw_iret hB hR dX6_held_18 rfl ?_
    exact ⟨by unfold zhd; first | (rw [if_pos (Int32.not_le.mp c1)]; rfl) | (rw [if_neg (Int32.not_lt.mpr c1), if_pos (Int32.not_le.mp c10)]) | (rw [if_neg (Int32.not_lt.mpr c1), if_neg (Int32.not_lt.mpr c10)]), rfl⟩
theorem s_X6_of {n : Nat} {σ : zSt}  {p w : Nat} : zSem n mX6_of [.int (nI p), .int (nI w)] σ (zP σ (.int (nI (23 + 4 * p + w)))) := by
  refine zSem.of (by decide +kernel) (Nat.le_of_ble_eq_true rfl) (fun X hB hR => ?_)
  show zW X 0 [some (.int (nI p)), some (.int (nI w))] [] σ
  refine zw_bipush (x := nI 23) hB dX6_of_0 (by decide) ?_
  refine zw_iconst (x := nI 4) hB dX6_of_2 (by decide) ?_
  refine zw_iload0 hB dX6_of_3 ?_
  refine zw_imulN hB dX6_of_4 ?_
  refine zw_iaddN hB dX6_of_5 ?_
  refine zw_iload1 hB dX6_of_6 ?_
  refine zw_iaddN hB dX6_of_7 ?_
  refine zw_iret hB hR dX6_of_8 rfl ?_
  exact ⟨rfl, rfl⟩
theorem s_X6_heart {n : Nat} {σ : zSt}  {p w : Nat} : zSem n mX6_heart [.int (nI p), .int (nI w)] σ (zP σ (.int (nI (5 + 3 * p + w)))) := by
  refine zSem.of (by decide +kernel) (Nat.le_of_ble_eq_true rfl) (fun X hB hR => ?_)
  show zW X 0 [some (.int (nI p)), some (.int (nI w))] [] σ
  refine zw_iconst (x := nI 5) hB dX6_heart_0 (by decide) ?_
  refine zw_iconst (x := nI 3) hB dX6_heart_1 (by decide) ?_
  refine zw_iload0 hB dX6_heart_2 ?_
  refine zw_imulN hB dX6_heart_3 ?_
  refine zw_iaddN hB dX6_heart_4 ?_
  refine zw_iload1 hB dX6_heart_5 ?_
  refine zw_iaddN hB dX6_heart_6 ?_
  refine zw_iret hB hR dX6_heart_7 rfl ?_
  exact ⟨rfl, rfl⟩
/-- one refusal more -/
def zRf (σ : zSt) (i k : Nat) : zSt := zC σ i (upd (σ i) k (σ i k + nI 1))
theorem s_X6_no {n : Nat} {σ : zSt}  {k : Nat} (c : Int32) (hc : -c = nI k) (hk : k < 7) : zSem n mX6_no [.ref 50, .int c] σ (fun v τ => v = some (.int c) ∧ τ = zRf σ 59 k) := by
  refine zSem.of (by decide +kernel) (Nat.le_of_ble_eq_true rfl) (fun X hB hR => ?_)
  show zW X 0 [some (.ref 50), some (.int c)] [] σ
  refine zw_aload0 hB dX6_no_0 ?_
  refine zw_getfR hB dX6_no_1 zf_X6_34 rfl rfl ?_
  refine zw_iload1 hB dX6_no_4 ?_
  refine zw_ineg hB dX6_no_5 ?_
  rw [hc]
  refine zw_dup2 hB dX6_no_6 rfl rfl ?_
  refine zw_ialdN hB dX6_no_7 rfl (by omega) (by decide) ?_
  refine zw_iconst (x := nI 1) hB dX6_no_8 (by decide) ?_
  refine zw_iadd hB dX6_no_9 ?_
  refine zw_iastN hB dX6_no_10 rfl (by omega) (by decide) ?_
  refine zw_iload1 hB dX6_no_11 ?_
  refine zw_iret hB hR dX6_no_12 rfl ?_
  exact ⟨rfl, rfl⟩
theorem s_X6_isFarm {n : Nat} {σ : zSt}  {N : Nat} (hN : σ 51 0 = nI N) (hN6 : N ≤ 6) (v : Int32) : zSem (n + 1) mX6_isFarm [.ref 50, .int v] σ (zP σ (.int (zb (¬ v < 0 ∧ ¬ nI N ≤ v)))) := by
  refine zSem.of (by decide +kernel) (Nat.le_of_ble_eq_true rfl) (fun X hB hR => ?_)
  show zW X 0 [some (.ref 50), some (.int v)] [] σ
  refine zw_iload1 hB dX6_isFarm_0 ?_
  refine zw_iconst (x := nI 0) hB dX6_isFarm_1 (by decide) ?_
  refine zw_aload0 hB dX6_isFarm_2 ?_
  refine zw_getfR hB dX6_isFarm_3 zf_X6_9 rfl rfl ?_
  refine zw_iconst (x := nI 0) hB dX6_isFarm_6 (by decide) ?_
  refine zw_ialdV (x := nI N) hB dX6_isFarm_7 rfl (by omega) (by decide) (hN) ?_
  refine zw_iconst (x := nI 1) hB dX6_isFarm_8 (by decide) ?_
  refine zw_isub hB dX6_isFarm_9 ?_
  refine zw_callS3P (M' := mX6_isIn) hB dX6_isFarm_10 zl_X6_52 zg_X6_isIn (s_X6_isIn _ _ _) ?_
  refine zw_zret hB hR dX6_isFarm_13 rfl (by unfold zb; split <;> decide) ?_
  exact ⟨by congr 2; unfold zb; simp only [zisin (show N < 2 ^ 30 by omega)], rfl⟩
theorem s_X6_isFarmer {n : Nat} {σ : zSt}  {N : Nat} (hN : σ 51 1 = nI N) (hN6 : N ≤ 6) (v : Int32) : zSem (n + 1) mX6_isFarmer [.ref 50, .int v] σ (zP σ (.int (zb (¬ v < 0 ∧ ¬ nI N ≤ v)))) := by
  refine zSem.of (by decide +kernel) (Nat.le_of_ble_eq_true rfl) (fun X hB hR => ?_)
  show zW X 0 [some (.ref 50), some (.int v)] [] σ
  refine zw_iload1 hB dX6_isFarmer_0 ?_
  refine zw_iconst (x := nI 0) hB dX6_isFarmer_1 (by decide) ?_
  refine zw_aload0 hB dX6_isFarmer_2 ?_
  refine zw_getfR hB dX6_isFarmer_3 zf_X6_9 rfl rfl ?_
  refine zw_iconst (x := nI 1) hB dX6_isFarmer_6 (by decide) ?_
  refine zw_ialdV (x := nI N) hB dX6_isFarmer_7 rfl (by omega) (by decide) (hN) ?_
  refine zw_iconst (x := nI 1) hB dX6_isFarmer_8 (by decide) ?_
  refine zw_isub hB dX6_isFarmer_9 ?_
  refine zw_callS3P (M' := mX6_isIn) hB dX6_isFarmer_10 zl_X6_52 zg_X6_isIn (s_X6_isIn _ _ _) ?_
  refine zw_zret hB hR dX6_isFarmer_13 rfl (by unfold zb; split <;> decide) ?_
  exact ⟨by congr 2; unfold zb; simp only [zisin (show N < 2 ^ 30 by omega)], rfl⟩
theorem s_X6_more {n : Nat} {σ : zSt}  {c f s : Nat} (hc : zLY[c]? = some (.inl 47)) (hf : f < 6) (hs : s < 3) (v : Int32) : zSem (n + 1) mX6_more [.ref c, .int (nI f), .int (nI s), .int v] σ (zVo (zC σ c (upd (σ c) (5 + 3 * f + s) (zhd (σ c (5 + 3 * f + s) + v) (nI 30))))) := by
  refine zSem.of (by decide +kernel) (Nat.le_of_ble_eq_true rfl) (fun X hB hR => ?_)
  show zW X 0 [some (.ref c), some (.int (nI f)), some (.int (nI s)), some (.int v)] [] σ
  refine zw_aload0 hB dX6_more_0 ?_
  refine zw_iload1 hB dX6_more_1 ?_
  refine zw_iload2 hB dX6_more_2 ?_
  refine zw_callS2P (M' := mX6_heart) hB dX6_more_3 zl_X6_60 zg_X6_heart (s_X6_heart) ?_
  refine zw_aload0 hB dX6_more_6 ?_
  refine zw_iload1 hB dX6_more_7 ?_
  refine zw_iload2 hB dX6_more_8 ?_
  refine zw_callS2P (M' := mX6_heart) hB dX6_more_9 zl_X6_60 zg_X6_heart (s_X6_heart) ?_
  refine zw_ialdN hB dX6_more_12 hc (by omega) (by decide) ?_
  refine zw_iload3 hB dX6_more_13 ?_
  refine zw_iadd hB dX6_more_14 ?_
  refine zw_bipush (x := nI 30) hB dX6_more_15 (by decide) ?_
  refine zw_callS2P (M' := mX6_held) hB dX6_more_17 zl_X6_63 zg_X6_held (s_X6_held _ _) ?_
  refine zw_iastN hB dX6_more_20 hc (by omega) (by decide) ?_
  refine zw_vret hB hR dX6_more_21 rfl ?_
  exact ⟨rfl, rfl⟩
theorem s_X6_tiresBy {n : Nat} {σ : zSt}  {k : Nat} (hk : k < 6) : zSem n mX6_tiresBy [.int (nI k)] σ (zP σ (.int (ztr k))) := by
  refine zSem.of (by decide +kernel) (Nat.le_of_ble_eq_true rfl) (fun X hB hR => ?_)
  show zW X 0 [some (.int (nI k))] [] σ
  refine zw_iload0 hB dX6_tiresBy_0 ?_
  have hk6 : k = 0 ∨ k = 1 ∨ k = 2 ∨ k = 3 ∨ k = 4 ∨ k = 5 := by omega
  rcases hk6 with rfl | rfl | rfl | rfl | rfl | rfl
  · refine zw_tabOut (tgt := 42) hB dX6_tiresBy_1 (by decide) (by decide) ?_
    refine zw_iconst (x := nI 2) hB dX6_tiresBy_42 (by decide) ?_
    refine zw_iret hB hR dX6_tiresBy_43 rfl ?_
    exact ⟨rfl, rfl⟩
  · refine zw_tabIn (off := 35) (tgt := 36) hB dX6_tiresBy_1 (by decide) (by decide) (by decide) (by decide) ?_
    refine zw_iconst (x := nI 1) hB dX6_tiresBy_36 (by decide) ?_
    refine zw_iret hB hR dX6_tiresBy_37 rfl ?_
    exact ⟨rfl, rfl⟩
  · refine zw_tabIn (off := 41) (tgt := 42) hB dX6_tiresBy_1 (by decide) (by decide) (by decide) (by decide) ?_
    refine zw_iconst (x := nI 2) hB dX6_tiresBy_42 (by decide) ?_
    refine zw_iret hB hR dX6_tiresBy_43 rfl ?_
    exact ⟨rfl, rfl⟩
  · refine zw_tabIn (off := 35) (tgt := 36) hB dX6_tiresBy_1 (by decide) (by decide) (by decide) (by decide) ?_
    refine zw_iconst (x := nI 1) hB dX6_tiresBy_36 (by decide) ?_
    refine zw_iret hB hR dX6_tiresBy_37 rfl ?_
    exact ⟨rfl, rfl⟩
  · refine zw_tabIn (off := 37) (tgt := 38) hB dX6_tiresBy_1 (by decide) (by decide) (by decide) (by decide) ?_
    refine zw_iconst (x := nI 3) hB dX6_tiresBy_38 (by decide) ?_
    refine zw_iret hB hR dX6_tiresBy_39 rfl ?_
    exact ⟨rfl, rfl⟩
  · refine zw_tabIn (off := 39) (tgt := 40) hB dX6_tiresBy_1 (by decide) (by decide) (by decide) (by decide) ?_
    refine zw_iconst (x := nI 4) hB dX6_tiresBy_40 (by decide) ?_
    refine zw_iret hB hR dX6_tiresBy_41 rfl ?_
    exact ⟨rfl, rfl⟩
/-- what p grows on the farm x -/
def zgb (r : zRw) (p : Nat) (x : Int32) : Int32 := if x < 0 ∨ nI 10 ≤ ztd r p then nI 0 else zgrw (zkd r p) (r (5 + 3 * x.toNatClampNeg)) (r (5 + 3 * x.toNatClampNeg + 1))
theorem s_X6_growsBy {n : Nat} {σ : zSt}  {c p : Nat} (hc : zLY[c]? = some (.inl 47)) (hp : p < 6) (hk : zro σ c (23 + 4 * p) = nI (zkd (zro σ c) p) ∧ zkd (zro σ c) p < 6) (x : Int32) (hx : x < 0 ∨ ∃ f, f < 6 ∧ x = nI f) : zSem (n + 1) mX6_growsBy [.ref c, .int (nI p), .int x] σ (zP σ (.int (zgb (zro σ c) p x))) := by
  refine zSem.of (by decide +kernel) (Nat.le_of_ble_eq_true rfl) (fun X hB hR => ?_)
  show zW X 0 [some (.ref c), some (.int (nI p)), some (.int x), none, none] [] σ
  have hneg : ∀ (v : Int32), v = nI 0 → x < 0 ∨ nI 10 ≤ ztd (zro σ c) p → zP σ (.int (zgb (zro σ c) p x)) (some (.int v)) σ := by
    intro v hv h
    exact ⟨by unfold zgb; rw [if_pos h, hv], rfl⟩
  refine zw_iload2 hB dX6_growsBy_0 ?_
  refine zw_if_lt (tgt := 16) hB dX6_growsBy_1 (by decide) (fun c1 => ?_) (fun c1 => ?_)
  · refine zw_iconst (x := nI 0) hB dX6_growsBy_16 (by decide) ?_
    refine zw_iret hB hR dX6_growsBy_17 rfl ?_
    exact hneg _ rfl (Or.inl c1)
  · refine zw_aload0 hB dX6_growsBy_4 ?_
    refine zw_iload1 hB dX6_growsBy_5 ?_
    refine zw_iconst (x := nI 2) hB dX6_growsBy_6 (by decide) ?_
    refine zw_callS2P (M' := mX6_of) hB dX6_growsBy_7 zl_X6_56 zg_X6_of (s_X6_of) ?_
    refine zw_ialdV (x := ztd (zro σ c) p) hB dX6_growsBy_10 hc (by omega) (by decide) (zro_td (by omega)) ?_
    refine zw_bipush (x := nI 10) hB dX6_growsBy_11 (by decide) ?_
    refine zw_icmp_lt (tgt := 18) hB dX6_growsBy_13 (by decide) (fun c13 => ?_) (fun c13 => ?_)
    · obtain ⟨f, hf, rfl⟩ : ∃ f, f < 6 ∧ x = nI f := by
        rcases hx with h | h
        · exact absurd h c1
        · exact h
      have hno : ¬ (nI f < 0 ∨ nI 10 ≤ ztd (zro σ c) p) := fun q => q.elim c1 (fun z => absurd z (Int32.not_le.mpr c13))
      obtain ⟨hk1, hk6⟩ := hk
      generalize hkd : zkd (zro σ c) p = k at hk6
      refine zw_aload0 hB dX6_growsBy_18 ?_
      refine zw_iload2 hB dX6_growsBy_19 ?_
      refine zw_iconst (x := nI 0) hB dX6_growsBy_20 (by decide) ?_
      refine zw_callS2P (M' := mX6_heart) hB dX6_growsBy_21 zl_X6_60 zg_X6_heart (s_X6_heart) ?_
      refine zw_ialdN hB dX6_growsBy_24 hc (by omega) (by decide) ?_
      refine zw_istore3 hB dX6_growsBy_25 rfl ?_
      refine zw_aload0 hB dX6_growsBy_26 ?_
      refine zw_iload2 hB dX6_growsBy_27 ?_
      refine zw_iconst (x := nI 1) hB dX6_growsBy_28 (by decide) ?_
      refine zw_callS2P (M' := mX6_heart) hB dX6_growsBy_29 zl_X6_60 zg_X6_heart (s_X6_heart) ?_
      refine zw_ialdN hB dX6_growsBy_32 hc (by omega) (by decide) ?_
      refine zw_istore4 hB dX6_growsBy_33 rfl ?_
      refine zw_aload0 hB dX6_growsBy_35 ?_
      refine zw_iload1 hB dX6_growsBy_36 ?_
      refine zw_iconst (x := nI 0) hB dX6_growsBy_37 (by decide) ?_
      refine zw_callS2P (M' := mX6_of) hB dX6_growsBy_38 zl_X6_56 zg_X6_of (s_X6_of) ?_
      refine zw_ialdV (x := nI k) hB dX6_growsBy_41 hc (by omega) (by decide) ((zro_kd (by omega)).trans (by rw [← hkd]; exact hk1)) ?_
      have hk6 : k = 0 ∨ k = 1 ∨ k = 2 ∨ k = 3 ∨ k = 4 ∨ k = 5 := by omega
      rcases hk6 with rfl | rfl | rfl | rfl | rfl | rfl
      · refine zw_tabOut (tgt := 96) hB dX6_growsBy_42 (by decide) (by decide) ?_
        refine zw_iload3 hB dX6_growsBy_96 ?_
        refine zw_iconst (x := nI 2) hB dX6_growsBy_97 (by decide) ?_
        refine zw_idiv hB dX6_growsBy_98 (by decide) ?_
        refine zw_iret hB hR dX6_growsBy_99 rfl ?_
        exact ⟨by unfold zgb; rw [if_neg hno, hkd, nI_clamp (by omega), zro_k (by omega), zro_k (by omega)]; rfl, rfl⟩
      · refine zw_tabIn (off := 34) (tgt := 76) hB dX6_growsBy_42 (by decide) (by decide) (by decide) (by decide) ?_
        refine zw_iload4 hB dX6_growsBy_76 ?_
        refine zw_iconst (x := nI 2) hB dX6_growsBy_78 (by decide) ?_
        refine zw_idiv hB dX6_growsBy_79 (by decide) ?_
        refine zw_iret hB hR dX6_growsBy_80 rfl ?_
        exact ⟨by unfold zgb; rw [if_neg hno, hkd, nI_clamp (by omega), zro_k (by omega), zro_k (by omega)]; rfl, rfl⟩
      · refine zw_tabIn (off := 39) (tgt := 81) hB dX6_growsBy_42 (by decide) (by decide) (by decide) (by decide) ?_
        refine zw_iload3 hB dX6_growsBy_81 ?_
        refine zw_iconst (x := nI 2) hB dX6_growsBy_82 (by decide) ?_
        refine zw_idiv hB dX6_growsBy_83 (by decide) ?_
        refine zw_iconst (x := nI 3) hB dX6_growsBy_84 (by decide) ?_
        refine zw_iadd hB dX6_growsBy_85 ?_
        refine zw_iret hB hR dX6_growsBy_86 rfl ?_
        exact ⟨by unfold zgb; rw [if_neg hno, hkd, nI_clamp (by omega), zro_k (by omega), zro_k (by omega)]; rfl, rfl⟩
      · refine zw_tabIn (off := 45) (tgt := 87) hB dX6_growsBy_42 (by decide) (by decide) (by decide) (by decide) ?_
        refine zw_iload4 hB dX6_growsBy_87 ?_
        refine zw_iconst (x := nI 2) hB dX6_growsBy_89 (by decide) ?_
        refine zw_idiv hB dX6_growsBy_90 (by decide) ?_
        refine zw_iconst (x := nI 2) hB dX6_growsBy_91 (by decide) ?_
        refine zw_idiv hB dX6_growsBy_92 (by decide) ?_
        refine zw_iret hB hR dX6_growsBy_93 rfl ?_
        exact ⟨by unfold zgb; rw [if_neg hno, hkd, nI_clamp (by omega), zro_k (by omega), zro_k (by omega)]; rfl, rfl⟩
      · refine zw_tabIn (off := 52) (tgt := 94) hB dX6_growsBy_42 (by decide) (by decide) (by decide) (by decide) ?_
        refine zw_iconst (x := nI 0) hB dX6_growsBy_94 (by decide) ?_
        refine zw_iret hB hR dX6_growsBy_95 rfl ?_
        exact ⟨by unfold zgb; rw [if_neg hno, hkd, nI_clamp (by omega), zro_k (by omega), zro_k (by omega)]; rfl, rfl⟩
      · refine zw_tabIn (off := 52) (tgt := 94) hB dX6_growsBy_42 (by decide) (by decide) (by decide) (by decide) ?_
        refine zw_iconst (x := nI 0) hB dX6_growsBy_94 (by decide) ?_
        refine zw_iret hB hR dX6_growsBy_95 rfl ?_
        exact ⟨by unfold zgb; rw [if_neg hno, hkd, nI_clamp (by omega), zro_k (by omega), zro_k (by omega)]; rfl, rfl⟩
    · refine zw_iconst (x := nI 0) hB dX6_growsBy_16 (by decide) ?_
      refine zw_iret hB hR dX6_growsBy_17 rfl ?_
      exact hneg _ rfl (Or.inr (Int32.not_lt.mp c13))
theorem s_X6_farmerAt {n : Nat} {σ : zSt}  {c P : Nat} (hc : zLY[c]? = some (.inl 47)) (hP : σ c 1 = nI P) (hP6 : P ≤ 6) (x : Int32) : zSem (n + 1) mX6_farmerAt [.ref c, .int x] σ (zP σ (.int (zten (zro σ c) x 0 P))) := by
  refine zSem.of (by decide +kernel) (Nat.le_of_ble_eq_true rfl) (fun X hB hR => ?_)
  show zW X 0 [some (.ref c), some (.int x), none] [] σ
  have hl : ∀ i, i ≤ P → zten (zro σ c) x 0 P = zten (zro σ c) x i (P - i) → zW X 2 [some (.ref c), some (.int x), some (.int (nI i))] [] σ := by
    refine zfor P (fun i hi ih => ?_)
    intro hq
    refine zw_iload2 hB dX6_farmerAt_2 ?_
    refine zw_aload0 hB dX6_farmerAt_3 ?_
    refine zw_iconst (x := nI 1) hB dX6_farmerAt_4 (by decide) ?_
    refine zw_ialdV (x := nI P) hB dX6_farmerAt_5 hc (by omega) (by decide) (hP) ?_
    refine zw_icmp_geN (tgt := 28) hB dX6_farmerAt_6 (by decide) (by omega) (by omega) (fun c6 => ?_) (fun c6 => ?_)
    · refine zw_bipush (x := -9) hB dX6_farmerAt_28 (by decide) ?_
      refine zw_iret hB hR dX6_farmerAt_30 rfl ?_
      exact ⟨by rw [hq, zten_e c6], rfl⟩
    · refine zw_aload0 hB dX6_farmerAt_9 ?_
      refine zw_iload2 hB dX6_farmerAt_10 ?_
      refine zw_iconst (x := nI 3) hB dX6_farmerAt_11 (by decide) ?_
      refine zw_callS2P (M' := mX6_of) hB dX6_farmerAt_12 zl_X6_56 zg_X6_of (s_X6_of) ?_
      refine zw_ialdV (x := zat (zro σ c) i) hB dX6_farmerAt_15 hc (by omega) (by decide) (zro_at (by omega)) ?_
      refine zw_iload1 hB dX6_farmerAt_16 ?_
      refine zw_icmp_ne (tgt := 22) hB dX6_farmerAt_17 (by decide) (fun c17 => ?_) (fun c17 => ?_)
      · refine zw_iinc2 hB dX6_farmerAt_22 (by first | exact zinc _ | rfl) rfl ?_
        refine zw_goto (tgt := 2) hB dX6_farmerAt_25 (by decide) ?_
        exact ih c6 (by rw [hq, zten_s c6, if_neg c17])
      · refine zw_iload2 hB dX6_farmerAt_20 ?_
        refine zw_iret hB hR dX6_farmerAt_21 rfl ?_
        exact ⟨by rw [hq, zten_s c6, if_pos c17], rfl⟩
  refine zw_iconst (x := nI 0) hB dX6_farmerAt_0 (by decide) ?_
  refine zw_istore2 hB dX6_farmerAt_1 rfl ?_
  exact hl 0 (by omega) rfl
theorem s_X6_green {n : Nat} {σ : zSt}  {c f : Nat} (hc : zLY[c]? = some (.inl 47)) (hf : f < 6) : zSem (n + 1) mX6_green [.ref c, .int (nI f)] σ (zP σ (.int (zgn (zro σ c) f))) := by
  refine zSem.of (by decide +kernel) (Nat.le_of_ble_eq_true rfl) (fun X hB hR => ?_)
  show zW X 0 [some (.ref c), some (.int (nI f))] [] σ
  refine zw_aload0 hB dX6_green_0 ?_
  refine zw_iload1 hB dX6_green_1 ?_
  refine zw_iconst (x := nI 0) hB dX6_green_2 (by decide) ?_
  refine zw_callS2P (M' := mX6_heart) hB dX6_green_3 zl_X6_60 zg_X6_heart (s_X6_heart) ?_
  refine zw_ialdN hB dX6_green_6 hc (by omega) (by decide) ?_
  refine zw_aload0 hB dX6_green_7 ?_
  refine zw_iload1 hB dX6_green_8 ?_
  refine zw_iconst (x := nI 1) hB dX6_green_9 (by decide) ?_
  refine zw_callS2P (M' := mX6_heart) hB dX6_green_10 zl_X6_60 zg_X6_heart (s_X6_heart) ?_
  refine zw_ialdN hB dX6_green_13 hc (by omega) (by decide) ?_
  refine zw_iadd hB dX6_green_14 ?_
  refine zw_aload0 hB dX6_green_15 ?_
  refine zw_iload1 hB dX6_green_16 ?_
  refine zw_iconst (x := nI 2) hB dX6_green_17 (by decide) ?_
  refine zw_callS2P (M' := mX6_heart) hB dX6_green_18 zl_X6_60 zg_X6_heart (s_X6_heart) ?_
  refine zw_ialdN hB dX6_green_21 hc (by omega) (by decide) ?_
  refine zw_iadd hB dX6_green_22 ?_
  refine zw_iret hB hR dX6_green_23 rfl ?_
  exact ⟨by unfold zgn; rw [zro_k (by omega), zro_k (by omega), zro_k (by omega)]; rfl, rfl⟩
theorem s_X6_greenAll {n : Nat} {σ : zSt}  {c F : Nat} (hc : zLY[c]? = some (.inl 47)) (hF : σ c 0 = nI F) (hF6 : F ≤ 6) : zSem (n + 2) mX6_greenAll [.ref c] σ (zP σ (.int (zsum (zgn (zro σ c)) F))) := by
  refine zSem.of (by decide +kernel) (Nat.le_of_ble_eq_true rfl) (fun X hB hR => ?_)
  show zW X 0 [some (.ref c), none, none] [] σ
  have hl : ∀ i, i ≤ F → zW X 4 [some (.ref c), some (.int (zsum (zgn (zro σ c)) i)), some (.int (nI i))] [] σ := by
    refine zfor F (fun i hi ih => ?_)
    refine zw_iload2 hB dX6_greenAll_4 ?_
    refine zw_aload0 hB dX6_greenAll_5 ?_
    refine zw_iconst (x := nI 0) hB dX6_greenAll_6 (by decide) ?_
    refine zw_ialdV (x := nI F) hB dX6_greenAll_7 hc (by omega) (by decide) (hF) ?_
    refine zw_icmp_geN (tgt := 25) hB dX6_greenAll_8 (by decide) (by omega) (by omega) (fun c8 => ?_) (fun c8 => ?_)
    · refine zw_iload1 hB dX6_greenAll_25 ?_
      refine zw_iret hB hR dX6_greenAll_26 rfl ?_
      exact ⟨by rw [show i = F by omega], rfl⟩
    · refine zw_iload1 hB dX6_greenAll_11 ?_
      refine zw_aload0 hB dX6_greenAll_12 ?_
      refine zw_iload2 hB dX6_greenAll_13 ?_
      refine zw_callS2P (M' := mX6_green) hB dX6_greenAll_14 zl_X6_88 zg_X6_green (s_X6_green hc (by omega)) ?_
      refine zw_iadd hB dX6_greenAll_17 ?_
      refine zw_istore1 hB dX6_greenAll_18 rfl ?_
      refine zw_iinc2 hB dX6_greenAll_19 (by first | exact zinc _ | rfl) rfl ?_
      refine zw_goto (tgt := 4) hB dX6_greenAll_22 (by decide) ?_
      exact ih c8
  refine zw_iconst (x := nI 0) hB dX6_greenAll_0 (by decide) ?_
  refine zw_istore1 hB dX6_greenAll_1 rfl ?_
  refine zw_iconst (x := nI 0) hB dX6_greenAll_2 (by decide) ?_
  refine zw_istore2 hB dX6_greenAll_3 rfl ?_
  exact hl 0 (by omega)
theorem s_X6_copies {n : Nat} {σ : zSt}  {c d : Nat} (hc : zLY[c]? = some (.inl 47)) (hd : zLY[d]? = some (.inl 47)) (hcd : c ≠ d) : zSem n mX6_copies [.ref c, .ref d] σ (fun v τ => v = none ∧ zro τ d = zro σ c ∧ ∀ a, a ≠ d → τ a = σ a) := by
  refine zSem.of (by decide +kernel) (Nat.le_of_ble_eq_true rfl) (fun X hB hR => ?_)
  show zW X 0 [some (.ref c), some (.ref d), none] [] σ
  have hl : ∀ i, i ≤ 47 → ∀ f : Nat → Int32, (∀ k, k < i → f k = σ c k) → zW X 2 [some (.ref c), some (.ref d), some (.int (nI i))] [] (zC σ d f) := by
    refine zfor 47 (fun i hi ih => ?_)
    intro f hf
    refine zw_iload2 hB dX6_copies_2 ?_
    refine zw_bipush (x := nI 47) hB dX6_copies_3 (by decide) ?_
    refine zw_icmp_geN (tgt := 20) hB dX6_copies_5 (by decide) (by omega) (by omega) (fun c5 => ?_) (fun c5 => ?_)
    · refine zw_vret hB hR dX6_copies_20 rfl ?_
      refine ⟨rfl, ?_, fun a ha => zC_n ha⟩
      rw [zro_C]
      funext k
      unfold zro
      by_cases e : k < 47
      · rw [if_pos e, if_pos e]; exact hf k (by omega)
      · rw [if_neg e, if_neg e]
    · refine zw_aload1 hB dX6_copies_8 ?_
      refine zw_iload2 hB dX6_copies_9 ?_
      refine zw_aload0 hB dX6_copies_10 ?_
      refine zw_iload2 hB dX6_copies_11 ?_
      refine zw_ialdV (x := σ c i) hB dX6_copies_12 hc (by omega) (by decide) (congrFun (zC_n hcd) i) ?_
      refine zw_iastN hB dX6_copies_13 hd (by omega) (by decide) ?_
      refine zw_iinc2 hB dX6_copies_14 (by first | exact zinc _ | rfl) rfl ?_
      refine zw_goto (tgt := 2) hB dX6_copies_17 (by decide) ?_
      rw [zC_C, zC_s]
      refine ih c5 _ (fun k hk => ?_)
      by_cases e : k = i
      · subst e; rw [zupd_s]
      · rw [zupd_o e]; exact hf k (by omega)
  refine zw_iconst (x := nI 0) hB dX6_copies_0 (by decide) ?_
  refine zw_istore2 hB dX6_copies_1 rfl ?_
  have e0 : zC σ d (σ d) = σ := by
    funext a
    by_cases h : a = d
    · subst h; exact zC_s
    · exact zC_n h
  have h9 := hl 0 (by omega) (σ d) (fun k hk => absurd hk (by omega))
  rw [e0] at h9
  exact h9
