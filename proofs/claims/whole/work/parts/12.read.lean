/-! LAND, read: the class's land at b as a row -/
def zrow (σ : zSt) (b : Nat) : zRw := fun k => if k < 5 then σ b k else if k < 23 then σ (b + 1) (k - 5) else if k < 47 then (if (k - 23) % 4 = 0 then σ (b + 3) ((k - 23) / 4) else if (k - 23) % 4 = 1 then σ (b + 4) ((k - 23) / 4) else if (k - 23) % 4 = 2 then σ (b + 5) ((k - 23) / 4) else σ (b + 6) ((k - 23) / 4)) else 0
theorem zrow_f {σ : zSt} {b k : Nat} (h : k < 5) : zrow σ b k = σ b k := if_pos h
theorem zrow_h {σ : zSt} {b k : Nat} (h : k < 18) : zrow σ b (5 + k) = σ (b + 1) k := by
  unfold zrow
  rw [if_neg (by omega), if_pos (by omega), show 5 + k - 5 = k by omega]
theorem zrow_hs {σ : zSt} {b f s : Nat} (hf : f < 6) (hs : s < 3) : zrow σ b (5 + 3 * f + s) = σ (b + 1) (3 * f + s) := by
  rw [show 5 + 3 * f + s = 5 + (3 * f + s) by omega]
  exact zrow_h (by omega)
theorem zrow_g0 {σ : zSt} {b f : Nat} (hf : f < 6) : σ (b + 1) (3 * f + 0) = zrow σ b (5 + 3 * f) := by
  have := zrow_hs (σ := σ) (b := b) (s := 0) hf (by omega)
  rw [← this, Nat.add_zero]
theorem zrow_g1 {σ : zSt} {b f : Nat} (hf : f < 6) : σ (b + 1) (3 * f + 1) = zrow σ b (5 + 3 * f + 1) := (zrow_hs (s := 1) hf (by omega)).symm
theorem zrow_p {σ : zSt} {b p w : Nat} (hp : p < 6) (hw : w < 4) : zrow σ b (23 + w + 4 * p) = if w = 0 then σ (b + 3) p else if w = 1 then σ (b + 4) p else if w = 2 then σ (b + 5) p else σ (b + 6) p := by
  unfold zrow
  rw [if_neg (by omega), if_neg (by omega), if_pos (by omega), show (23 + w + 4 * p - 23) % 4 = w by omega, show (23 + w + 4 * p - 23) / 4 = p by omega]
theorem zrow_kd {σ : zSt} {b p : Nat} (hp : p < 6) : σ (b + 3) p = zrow σ b (23 + 4 * p) := (zrow_p (w := 0) hp (by omega)).symm
theorem zrow_fg {σ : zSt} {b p : Nat} (hp : p < 6) : σ (b + 4) p = zrow σ b (24 + 4 * p) := (zrow_p (w := 1) hp (by omega)).symm
theorem zrow_td {σ : zSt} {b p : Nat} (hp : p < 6) : σ (b + 5) p = ztd (zrow σ b) p := (zrow_p (w := 2) hp (by omega)).symm
theorem zrow_at {σ : zSt} {b p : Nat} (hp : p < 6) : σ (b + 6) p = zat (zrow σ b) p := (zrow_p (w := 3) hp (by omega)).symm
theorem zrow_congr {σ τ : zSt} {b : Nat} (h : ∀ c, b ≤ c → c < b + 7 → τ c = σ c) : zrow τ b = zrow σ b := by
  funext k
  unfold zrow
  rw [h b (by omega) (by omega), h (b + 1) (by omega) (by omega), h (b + 3) (by omega) (by omega), h (b + 4) (by omega) (by omega), h (b + 5) (by omega) (by omega), h (b + 6) (by omega) (by omega)]
theorem zrow_out {σ : zSt} {b k : Nat} (h : 47 ≤ k) : zrow σ b k = 0 := by
  unfold zrow
  rw [if_neg (by omega), if_neg (by omega), if_neg (by omega)]
/-- a counter from i up to N -/
theorem zfor {Hd : Nat → Prop} (N : Nat) (h : ∀ i, i ≤ N → (i < N → Hd (i + 1)) → Hd i) : ∀ i, i ≤ N → Hd i := by
  intro i hi
  obtain ⟨k, hk⟩ : ∃ k, i + k = N := ⟨N - i, by omega⟩
  induction k generalizing i with
  | zero => exact h i hi (fun q => absurd q (by omega))
  | succ k ih => exact h i hi (fun q => ih (i + 1) (by omega) (by omega))
theorem nI_n9 {q : Nat} (h : q < 2 ^ 31) : ¬ nI q = -9 := fun e => nI_pos h (by rw [e]; exact zneg9)
theorem nI_9n {q : Nat} (h : q < 2 ^ 31) : ¬ (-9 : Int32) = nI q := fun e => nI_n9 h e.symm
def zopt (o : Option Nat) : Int32 := match o with | none => -9 | some i => nI i
/-- the first farmer whose place is x, from i on -/
def zten (r : zRw) (x : Int32) : Nat → Nat → Int32
  | _, 0 => -9
  | i, k + 1 => if zat r i = x then nI i else zten r x (i + 1) k
theorem zten_s {r : zRw} {x : Int32} {i P : Nat} (h : i < P) : zten r x i (P - i) = if zat r i = x then nI i else zten r x (i + 1) (P - (i + 1)) := by
  obtain ⟨k, hk⟩ : ∃ k, P - i = k + 1 := ⟨P - i - 1, by omega⟩
  rw [hk, show P - (i + 1) = k by omega]
  rfl
theorem zten_e {r : zRw} {x : Int32} {i P : Nat} (h : P ≤ i) : zten r x i (P - i) = -9 := by
  rw [show P - i = 0 by omega]
  rfl
def zsum (f : Nat → Int32) : Nat → Int32
  | 0 => nI 0
  | i + 1 => zsum f i + f i
def zgn (r : zRw) (f : Nat) : Int32 := r (5 + 3 * f) + r (5 + 3 * f + 1) + r (5 + 3 * f + 2)
theorem zgn_row {σ : zSt} {b f : Nat} (hf : f < 6) : σ (b + 1) (3 * f + 0) + σ (b + 1) (3 * f + 1) + σ (b + 1) (3 * f + 2) = zgn (zrow σ b) f := by
  unfold zgn
  have z0 := zrow_hs (σ := σ) (b := b) (s := 0) hf (by omega)
  have z1 := zrow_hs (σ := σ) (b := b) (s := 1) hf (by omega)
  have z2 := zrow_hs (σ := σ) (b := b) (s := 2) hf (by omega)
  rw [← z0, ← z1, ← z2, Nat.add_zero]
/-- the best of the first i, of several the least -/
def zgst (g : Nat → Int32) : Nat → Option Nat
  | 0 => none
  | i + 1 => match zgst g i with
    | none => some i
    | some q => if g q < g i then some i else some q
theorem zgst_in (g : Nat → Int32) : ∀ i, (i = 0 ∧ zgst g i = none) ∨ ∃ q, q < i ∧ zgst g i = some q := by
  intro i
  induction i with
  | zero => exact Or.inl ⟨rfl, rfl⟩
  | succ i ih =>
    refine Or.inr ?_
    rcases ih with ⟨rfl, e⟩ | ⟨q, hq, e⟩
    · exact ⟨0, by omega, rfl⟩
    · unfold zgst
      rw [e]
      by_cases c : g q < g i
      · exact ⟨i, by omega, by simp [c]⟩
      · exact ⟨q, by omega, by simp [c]⟩
def zmin (g : Nat → Int32) (m : Int32) : Nat → Int32
  | 0 => m
  | i + 1 => if g i < zmin g m i then g i else zmin g m i
def zmost (r : zRw) : Int32 := match zgst (zgn r) (zNF r) with | none => nI 0 | some q => zgn r q
/-- some sort of farm f is 0 -/
def zbar (r : zRw) (f : Nat) : Bool := decide (r (5 + 3 * f) = 0 ∨ r (5 + 3 * f + 1) = 0 ∨ r (5 + 3 * f + 2) = 0)
def zfst (p : Nat → Bool) : Nat → Nat → Option Nat
  | _, 0 => none
  | i, k + 1 => if p i = true then some i else zfst p (i + 1) k
theorem zfst_s {p : Nat → Bool} {i N : Nat} (h : i < N) : zfst p i (N - i) = if p i = true then some i else zfst p (i + 1) (N - (i + 1)) := by
  obtain ⟨k, hk⟩ : ∃ k, N - i = k + 1 := ⟨N - i - 1, by omega⟩
  rw [hk, show N - (i + 1) = k by omega]
  rfl
theorem zfst_e {p : Nat → Bool} {i N : Nat} (h : N ≤ i) : zfst p i (N - i) = none := by
  rw [show N - i = 0 by omega]
  rfl

theorem s_X1_tenantOf {n : Nat} {σ : zSt} {b F P : Nat} (hb : zLd b) (hg : zGd (zrow σ b) F P) (x : Int32) : zSem n mX1_tenantOf [.ref b, .int x] σ (zP σ (.int (zten (zrow σ b) x 0 P))) := by
  have hF6 := hg.F6
  have hP6 := hg.P6
  have hF : σ b 0 = nI F := hg.r0
  have hP : σ b 1 = nI P := hg.r1
  refine zSem.of (by decide +kernel) (Nat.le_of_ble_eq_true rfl) (fun X hB hR => ?_)
  show zW X 0 [some (.ref b), some (.int x), none] [] σ
  have hl : ∀ i, i ≤ P → zten (zrow σ b) x 0 P = zten (zrow σ b) x i (P - i) → zW X 2 [some (.ref b), some (.int x), some (.int (nI i))] [] σ := by
    refine zfor P (fun i hi ih => ?_)
    intro hq
    refine zw_iload2 hB dX1_tenantOf_2 ?_
    refine zw_aload0 hB dX1_tenantOf_3 ?_
    refine zw_getfV (x := nI P) hB dX1_tenantOf_4 zf_X1_40 hb.1 rfl (hP) ?_
    refine zw_icmp_geN (tgt := 28) hB dX1_tenantOf_7 (by decide) (by omega) (by omega) (fun c7 => ?_) (fun c7 => ?_)
    · refine zw_bipush (x := -9) hB dX1_tenantOf_28 (by decide) ?_
      refine zw_iret hB hR dX1_tenantOf_30 rfl ?_
      exact ⟨by rw [hq, zten_e c7], rfl⟩
    · refine zw_aload0 hB dX1_tenantOf_10 ?_
      refine zw_getfR hB dX1_tenantOf_11 zf_X1_31 hb.1 rfl ?_
      refine zw_iload2 hB dX1_tenantOf_14 ?_
      refine zw_ialdV (x := zat (zrow σ b) i) hB dX1_tenantOf_15 hb.2.2.2.2.2.2.1 (by omega) (by decide) (zrow_at (by omega)) ?_
      refine zw_iload1 hB dX1_tenantOf_16 ?_
      refine zw_icmp_ne (tgt := 22) hB dX1_tenantOf_17 (by decide) (fun c17 => ?_) (fun c17 => ?_)
      · refine zw_iinc2 hB dX1_tenantOf_22 (by first | exact zinc _ | rfl) rfl ?_
        refine zw_goto (tgt := 2) hB dX1_tenantOf_25 (by decide) ?_
        exact ih c7 (by rw [hq, zten_s c7, if_neg c17])
      · refine zw_iload2 hB dX1_tenantOf_20 ?_
        refine zw_iret hB hR dX1_tenantOf_21 rfl ?_
        exact ⟨by rw [hq, zten_s c7, if_pos c17], rfl⟩
  refine zw_iconst (x := nI 0) hB dX1_tenantOf_0 (by decide) ?_
  refine zw_istore2 hB dX1_tenantOf_1 rfl ?_
  exact hl 0 (by omega) rfl
theorem s_X1_greenOf {n : Nat} {σ : zSt} {b : Nat} (hb : zLd b) {f : Nat} (hf : f < 6) : zSem (n + 1) mX1_greenOf [.ref b, .int (nI f)] σ (zP σ (.int (zgn (zrow σ b) f))) := by
  refine zSem.of (by decide +kernel) (Nat.le_of_ble_eq_true rfl) (fun X hB hR => ?_)
  show zW X 0 [some (.ref b), some (.int (nI f))] [] σ
  refine zw_aload0 hB dX1_greenOf_0 ?_
  refine zw_iload1 hB dX1_greenOf_1 ?_
  refine zw_iconst (x := nI 0) hB dX1_greenOf_2 (by decide) ?_
  refine zw_callV2P (M' := mX1_heartOf) hB dX1_greenOf_3 zl_X1_63 zg_X1_heartOf (zRc.of hb.1 rfl rfl) (s_X1_heartOf hb (by omega) (by omega)) ?_
  refine zw_aload0 hB dX1_greenOf_6 ?_
  refine zw_iload1 hB dX1_greenOf_7 ?_
  refine zw_iconst (x := nI 1) hB dX1_greenOf_8 (by decide) ?_
  refine zw_callV2P (M' := mX1_heartOf) hB dX1_greenOf_9 zl_X1_63 zg_X1_heartOf (zRc.of hb.1 rfl rfl) (s_X1_heartOf hb (by omega) (by omega)) ?_
  refine zw_iadd hB dX1_greenOf_12 ?_
  refine zw_aload0 hB dX1_greenOf_13 ?_
  refine zw_iload1 hB dX1_greenOf_14 ?_
  refine zw_iconst (x := nI 2) hB dX1_greenOf_15 (by decide) ?_
  refine zw_callV2P (M' := mX1_heartOf) hB dX1_greenOf_16 zl_X1_63 zg_X1_heartOf (zRc.of hb.1 rfl rfl) (s_X1_heartOf hb (by omega) (by omega)) ?_
  refine zw_iadd hB dX1_greenOf_19 ?_
  refine zw_iret hB hR dX1_greenOf_20 rfl ?_
  exact ⟨by rw [zgn_row hf], rfl⟩
theorem s_X1_greenOfAll {n : Nat} {σ : zSt} {b F P : Nat} (hb : zLd b) (hg : zGd (zrow σ b) F P) : zSem (n + 2) mX1_greenOfAll [.ref b] σ (zP σ (.int (zsum (zgn (zrow σ b)) F))) := by
  have hF6 := hg.F6
  have hP6 := hg.P6
  have hF : σ b 0 = nI F := hg.r0
  have hP : σ b 1 = nI P := hg.r1
  refine zSem.of (by decide +kernel) (Nat.le_of_ble_eq_true rfl) (fun X hB hR => ?_)
  show zW X 0 [some (.ref b), none, none] [] σ
  have hl : ∀ i, i ≤ F → True → zW X 4 [some (.ref b), some (.int (zsum (zgn (zrow σ b)) i)), some (.int (nI i))] [] σ := by
    refine zfor F (fun i hi ih => ?_)
    intro hq
    refine zw_iload2 hB dX1_greenOfAll_4 ?_
    refine zw_aload0 hB dX1_greenOfAll_5 ?_
    refine zw_getfV (x := nI F) hB dX1_greenOfAll_6 zf_X1_37 hb.1 rfl (hF) ?_
    refine zw_icmp_geN (tgt := 26) hB dX1_greenOfAll_9 (by decide) (by omega) (by omega) (fun c9 => ?_) (fun c9 => ?_)
    · refine zw_iload1 hB dX1_greenOfAll_26 ?_
      refine zw_iret hB hR dX1_greenOfAll_27 rfl ?_
      exact ⟨by rw [show i = F by omega], rfl⟩
    · refine zw_iload1 hB dX1_greenOfAll_12 ?_
      refine zw_aload0 hB dX1_greenOfAll_13 ?_
      refine zw_iload2 hB dX1_greenOfAll_14 ?_
      refine zw_callV1P (M' := mX1_greenOf) hB dX1_greenOfAll_15 zl_X1_67 zg_X1_greenOf (zRc.of hb.1 rfl rfl) (s_X1_greenOf hb (by omega)) ?_
      refine zw_iadd hB dX1_greenOfAll_18 ?_
      refine zw_istore1 hB dX1_greenOfAll_19 rfl ?_
      refine zw_iinc2 hB dX1_greenOfAll_20 (by first | exact zinc _ | rfl) rfl ?_
      refine zw_goto (tgt := 4) hB dX1_greenOfAll_23 (by decide) ?_
      exact ih c9 trivial
  refine zw_iconst (x := nI 0) hB dX1_greenOfAll_0 (by decide) ?_
  refine zw_istore1 hB dX1_greenOfAll_1 rfl ?_
  refine zw_iconst (x := nI 0) hB dX1_greenOfAll_2 (by decide) ?_
  refine zw_istore2 hB dX1_greenOfAll_3 rfl ?_
  exact hl 0 (by omega) trivial
theorem s_X1_greenestFarm {n : Nat} {σ : zSt} {b F P : Nat} (hb : zLd b) (hg : zGd (zrow σ b) F P) : zSem (n + 2) mX1_greenestFarm [.ref b] σ (zP σ (.int (zopt (zgst (zgn (zrow σ b)) F)))) := by
  have hF6 := hg.F6
  have hP6 := hg.P6
  have hF : σ b 0 = nI F := hg.r0
  have hP : σ b 1 = nI P := hg.r1
  refine zSem.of (by decide +kernel) (Nat.le_of_ble_eq_true rfl) (fun X hB hR => ?_)
  show zW X 0 [some (.ref b), none, none] [] σ
  have hl : ∀ i, i ≤ F → ∀ v : Int32, v = zopt (zgst (zgn (zrow σ b)) i) → zW X 5 [some (.ref b), some (.int v), some (.int (nI i))] [] σ := by
    refine zfor F (fun i hi ih => ?_)
    intro v hv
    rcases zgst_in (zgn (zrow σ b)) i with ⟨rfl, e⟩ | ⟨q, hq, e⟩
    · rw [e] at hv
      have hv : v = -9 := hv
      subst hv
      refine zw_iload2 hB dX1_greenestFarm_5 ?_
      refine zw_aload0 hB dX1_greenestFarm_6 ?_
      refine zw_getfV (x := nI F) hB dX1_greenestFarm_7 zf_X1_37 hb.1 rfl (hF) ?_
      refine zw_icmp_geN (tgt := 40) hB dX1_greenestFarm_10 (by decide) (by omega) (by omega) (fun c10 => ?_) (fun c10 => ?_)
      · refine zw_iload1 hB dX1_greenestFarm_40 ?_
        refine zw_iret hB hR dX1_greenestFarm_41 rfl ?_
        exact ⟨by rw [show F = 0 by omega]; rfl, rfl⟩
      · refine zw_iload1 hB dX1_greenestFarm_13 ?_
        refine zw_bipush (x := -9) hB dX1_greenestFarm_14 (by decide) ?_
        refine zw_icmp_eq (tgt := 32) hB dX1_greenestFarm_16 (by decide) (fun c16 => ?_) (fun c16 => by first | exact absurd rfl c16 | exact absurd c16 rfl | omega)
        refine zw_iload2 hB dX1_greenestFarm_32 ?_
        refine zw_istore1 hB dX1_greenestFarm_33 rfl ?_
        refine zw_iinc2 hB dX1_greenestFarm_34 (by first | exact zinc _ | rfl) rfl ?_
        refine zw_goto (tgt := 5) hB dX1_greenestFarm_37 (by decide) ?_
        exact ih c10 _ rfl
    · rw [e] at hv
      have hv : v = nI q := hv
      subst hv
      refine zw_iload2 hB dX1_greenestFarm_5 ?_
      refine zw_aload0 hB dX1_greenestFarm_6 ?_
      refine zw_getfV (x := nI F) hB dX1_greenestFarm_7 zf_X1_37 hb.1 rfl (hF) ?_
      refine zw_icmp_geN (tgt := 40) hB dX1_greenestFarm_10 (by decide) (by omega) (by omega) (fun c10 => ?_) (fun c10 => ?_)
      · refine zw_iload1 hB dX1_greenestFarm_40 ?_
        refine zw_iret hB hR dX1_greenestFarm_41 rfl ?_
        exact ⟨by rw [show F = i by omega, e]; rfl, rfl⟩
      · refine zw_iload1 hB dX1_greenestFarm_13 ?_
        refine zw_bipush (x := -9) hB dX1_greenestFarm_14 (by decide) ?_
        refine zw_icmp_eq (tgt := 32) hB dX1_greenestFarm_16 (by decide) (fun c16 => by first | exact absurd c16 (nI_n9 (by omega)) | exact absurd (nI_n9 (by omega)) c16 | omega) (fun c16 => ?_)
        refine zw_aload0 hB dX1_greenestFarm_19 ?_
        refine zw_iload2 hB dX1_greenestFarm_20 ?_
        refine zw_callV1P (M' := mX1_greenOf) hB dX1_greenestFarm_21 zl_X1_67 zg_X1_greenOf (zRc.of hb.1 rfl rfl) (s_X1_greenOf hb (by omega)) ?_
        refine zw_aload0 hB dX1_greenestFarm_24 ?_
        refine zw_iload1 hB dX1_greenestFarm_25 ?_
        refine zw_callV1P (M' := mX1_greenOf) hB dX1_greenestFarm_26 zl_X1_67 zg_X1_greenOf (zRc.of hb.1 rfl rfl) (s_X1_greenOf hb (by omega)) ?_
        refine zw_icmp_le (tgt := 34) hB dX1_greenestFarm_29 (by decide) (fun c29 => ?_) (fun c29 => ?_)
        · refine zw_iinc2 hB dX1_greenestFarm_34 (by first | exact zinc _ | rfl) rfl ?_
          refine zw_goto (tgt := 5) hB dX1_greenestFarm_37 (by decide) ?_
          exact ih c10 _ (by unfold zgst; rw [e]; first | (simp only [if_neg (Int32.not_lt.mpr c29)]; rfl) | (simp only [if_pos (Int32.not_le.mp c29)]; rfl))
        · refine zw_iload2 hB dX1_greenestFarm_32 ?_
          refine zw_istore1 hB dX1_greenestFarm_33 rfl ?_
          refine zw_iinc2 hB dX1_greenestFarm_34 (by first | exact zinc _ | rfl) rfl ?_
          refine zw_goto (tgt := 5) hB dX1_greenestFarm_37 (by decide) ?_
          exact ih c10 _ (by unfold zgst; rw [e]; first | (simp only [if_neg (Int32.not_lt.mpr c29)]; rfl) | (simp only [if_pos (Int32.not_le.mp c29)]; rfl))
  refine zw_bipush (x := -9) hB dX1_greenestFarm_0 (by decide) ?_
  refine zw_istore1 hB dX1_greenestFarm_2 rfl ?_
  refine zw_iconst (x := nI 0) hB dX1_greenestFarm_3 (by decide) ?_
  refine zw_istore2 hB dX1_greenestFarm_4 rfl ?_
  exact hl 0 (by omega) _ rfl
theorem s_X1_mostGreen {n : Nat} {σ : zSt} {b F P : Nat} (hb : zLd b) (hg : zGd (zrow σ b) F P) : zSem (n + 3) mX1_mostGreen [.ref b] σ (zP σ (.int (zmost (zrow σ b)))) := by
  have hF6 := hg.F6
  have hP6 := hg.P6
  have hF : σ b 0 = nI F := hg.r0
  have hP : σ b 1 = nI P := hg.r1
  refine zSem.of (by decide +kernel) (Nat.le_of_ble_eq_true rfl) (fun X hB hR => ?_)
  show zW X 0 [some (.ref b), none] [] σ
  rcases zgst_in (zgn (zrow σ b)) F with ⟨z, e⟩ | ⟨q, hq, e⟩
  · have e2 : zmost (zrow σ b) = nI 0 := by unfold zmost; rw [hg.nF, e]
    refine zw_aload0 hB dX1_mostGreen_0 ?_
    refine zw_callV0 (M' := mX1_greenestFarm) hB dX1_mostGreen_1 zl_X1_70 zg_X1_greenestFarm (zRc.of hb.1 rfl rfl) (s_X1_greenestFarm hb hg) (fun v1 σ1 hq1 => ?_)
    obtain ⟨rfl, rfl⟩ := hq1
    rw [e]
    show zW X 4 _ [.int (-9)] _
    refine zw_istore1 hB dX1_mostGreen_4 rfl ?_
    refine zw_iload1 hB dX1_mostGreen_5 ?_
    refine zw_bipush (x := -9) hB dX1_mostGreen_6 (by decide) ?_
    refine zw_icmp_ne (tgt := 15) hB dX1_mostGreen_8 (by decide) (fun c8 => by first | exact absurd c8 (fun z => z rfl) | exact absurd (fun z => z rfl) c8 | omega) (fun c8 => ?_)
    refine zw_iconst (x := nI 0) hB dX1_mostGreen_11 (by decide) ?_
    refine zw_goto (tgt := 20) hB dX1_mostGreen_12 (by decide) ?_
    refine zw_iret hB hR dX1_mostGreen_20 rfl ?_
    exact ⟨by rw [e2], rfl⟩
  · have e2 : zmost (zrow σ b) = zgn (zrow σ b) q := by unfold zmost; rw [hg.nF, e]
    refine zw_aload0 hB dX1_mostGreen_0 ?_
    refine zw_callV0 (M' := mX1_greenestFarm) hB dX1_mostGreen_1 zl_X1_70 zg_X1_greenestFarm (zRc.of hb.1 rfl rfl) (s_X1_greenestFarm hb hg) (fun v1 σ1 hq1 => ?_)
    obtain ⟨rfl, rfl⟩ := hq1
    rw [e]
    show zW X 4 _ [.int (nI q)] _
    refine zw_istore1 hB dX1_mostGreen_4 rfl ?_
    refine zw_iload1 hB dX1_mostGreen_5 ?_
    refine zw_bipush (x := -9) hB dX1_mostGreen_6 (by decide) ?_
    refine zw_icmp_ne (tgt := 15) hB dX1_mostGreen_8 (by decide) (fun c8 => ?_) (fun c8 => by first | exact absurd (nI_n9 (by omega)) c8 | exact absurd c8 (nI_n9 (by omega)) | omega)
    refine zw_aload0 hB dX1_mostGreen_15 ?_
    refine zw_iload1 hB dX1_mostGreen_16 ?_
    refine zw_callV1P (M' := mX1_greenOf) hB dX1_mostGreen_17 zl_X1_67 zg_X1_greenOf (zRc.of hb.1 rfl rfl) (s_X1_greenOf hb (by omega)) ?_
    refine zw_iret hB hR dX1_mostGreen_20 rfl ?_
    exact ⟨by rw [e2], rfl⟩
theorem s_X1_leastGreen {n : Nat} {σ : zSt} {b F P : Nat} (hb : zLd b) (hg : zGd (zrow σ b) F P) : zSem (n + 4) mX1_leastGreen [.ref b] σ (zP σ (.int (zmin (zgn (zrow σ b)) (zmost (zrow σ b)) F))) := by
  have hF6 := hg.F6
  have hP6 := hg.P6
  have hF : σ b 0 = nI F := hg.r0
  have hP : σ b 1 = nI P := hg.r1
  refine zSem.of (by decide +kernel) (Nat.le_of_ble_eq_true rfl) (fun X hB hR => ?_)
  show zW X 0 [some (.ref b), none, none] [] σ
  have hl : ∀ i, i ≤ F → True → zW X 7 [some (.ref b), some (.int (zmin (zgn (zrow σ b)) (zmost (zrow σ b)) i)), some (.int (nI i))] [] σ := by
    refine zfor F (fun i hi ih => ?_)
    intro hq
    refine zw_iload2 hB dX1_leastGreen_7 ?_
    refine zw_aload0 hB dX1_leastGreen_8 ?_
    refine zw_getfV (x := nI F) hB dX1_leastGreen_9 zf_X1_37 hb.1 rfl (hF) ?_
    refine zw_icmp_geN (tgt := 31) hB dX1_leastGreen_12 (by decide) (by omega) (by omega) (fun c12 => ?_) (fun c12 => ?_)
    · refine zw_iload1 hB dX1_leastGreen_31 ?_
      refine zw_iret hB hR dX1_leastGreen_32 rfl ?_
      exact ⟨by rw [show i = F by omega], rfl⟩
    · refine zw_iload1 hB dX1_leastGreen_15 ?_
      refine zw_aload0 hB dX1_leastGreen_16 ?_
      refine zw_iload2 hB dX1_leastGreen_17 ?_
      refine zw_callV1P (M' := mX1_greenOf) hB dX1_leastGreen_18 zl_X1_67 zg_X1_greenOf (zRc.of hb.1 rfl rfl) (s_X1_greenOf hb (by omega)) ?_
      refine zw_min hB dX1_leastGreen_21 zl_X1_77 (by first | exact Nat.le_of_ble_eq_true rfl | decide) ?_
      refine zw_istore1 hB dX1_leastGreen_24 rfl ?_
      refine zw_iinc2 hB dX1_leastGreen_25 (by first | exact zinc _ | rfl) rfl ?_
      refine zw_goto (tgt := 7) hB dX1_leastGreen_28 (by decide) ?_
      exact ih c12 trivial
  refine zw_aload0 hB dX1_leastGreen_0 ?_
  refine zw_callV0P (M' := mX1_mostGreen) hB dX1_leastGreen_1 zl_X1_74 zg_X1_mostGreen (zRc.of hb.1 rfl rfl) (s_X1_mostGreen hb hg) ?_
  refine zw_istore1 hB dX1_leastGreen_4 rfl ?_
  refine zw_iconst (x := nI 0) hB dX1_leastGreen_5 (by decide) ?_
  refine zw_istore2 hB dX1_leastGreen_6 rfl ?_
  exact hl 0 (by omega) trivial
theorem s_X1_firstBarrenFarm {n : Nat} {σ : zSt} {b F P : Nat} (hb : zLd b) (hg : zGd (zrow σ b) F P) : zSem (n + 1) mX1_firstBarrenFarm [.ref b] σ (zP σ (.int (zopt (zfst (zbar (zrow σ b)) 0 F)))) := by
  have hF6 := hg.F6
  have hP6 := hg.P6
  have hF : σ b 0 = nI F := hg.r0
  have hP : σ b 1 = nI P := hg.r1
  refine zSem.of (by decide +kernel) (Nat.le_of_ble_eq_true rfl) (fun X hB hR => ?_)
  show zW X 0 [some (.ref b), none] [] σ
  have hl : ∀ i, i ≤ F → zfst (zbar (zrow σ b)) 0 F = zfst (zbar (zrow σ b)) i (F - i) → zW X 2 [some (.ref b), some (.int (nI i))] [] σ := by
    refine zfor F (fun i hi ih => ?_)
    intro hq
    refine zw_iload1 hB dX1_firstBarrenFarm_2 ?_
    refine zw_aload0 hB dX1_firstBarrenFarm_3 ?_
    refine zw_getfV (x := nI F) hB dX1_firstBarrenFarm_4 zf_X1_37 hb.1 rfl (hF) ?_
    refine zw_icmp_geN (tgt := 45) hB dX1_firstBarrenFarm_7 (by decide) (by omega) (by omega) (fun c7 => ?_) (fun c7 => ?_)
    · refine zw_bipush (x := -9) hB dX1_firstBarrenFarm_45 (by decide) ?_
      refine zw_iret hB hR dX1_firstBarrenFarm_47 rfl ?_
      exact ⟨by rw [hq, zfst_e c7]; rfl, rfl⟩
    · have z0 := zrow_hs (σ := σ) (b := b) (s := 0) (show i < 6 by omega) (by omega)
      have z1 := zrow_hs (σ := σ) (b := b) (s := 1) (show i < 6 by omega) (by omega)
      have z2 := zrow_hs (σ := σ) (b := b) (s := 2) (show i < 6 by omega) (by omega)
      refine zw_aload0 hB dX1_firstBarrenFarm_10 ?_
      refine zw_iload1 hB dX1_firstBarrenFarm_11 ?_
      refine zw_iconst (x := nI 0) hB dX1_firstBarrenFarm_12 (by decide) ?_
      refine zw_callV2P (M' := mX1_heartOf) hB dX1_firstBarrenFarm_13 zl_X1_63 zg_X1_heartOf (zRc.of hb.1 rfl rfl) (s_X1_heartOf hb (by omega) (by omega)) ?_
      refine zw_if_eq (tgt := 37) hB dX1_firstBarrenFarm_16 (by decide) (fun c16 => ?_) (fun c16 => ?_)
      · refine zw_iload1 hB dX1_firstBarrenFarm_37 ?_
        refine zw_iret hB hR dX1_firstBarrenFarm_38 rfl ?_
        exact ⟨by rw [hq, zfst_s c7, if_pos (by unfold zbar; simp only [decide_eq_true_eq]; simp only [Nat.add_zero] at z0; rw [z0, z1, z2]; first | exact Or.inl c16 | exact Or.inr (Or.inl c25) | exact Or.inr (Or.inr c34))]; rfl, rfl⟩
      · refine zw_aload0 hB dX1_firstBarrenFarm_19 ?_
        refine zw_iload1 hB dX1_firstBarrenFarm_20 ?_
        refine zw_iconst (x := nI 1) hB dX1_firstBarrenFarm_21 (by decide) ?_
        refine zw_callV2P (M' := mX1_heartOf) hB dX1_firstBarrenFarm_22 zl_X1_63 zg_X1_heartOf (zRc.of hb.1 rfl rfl) (s_X1_heartOf hb (by omega) (by omega)) ?_
        refine zw_if_eq (tgt := 37) hB dX1_firstBarrenFarm_25 (by decide) (fun c25 => ?_) (fun c25 => ?_)
        · refine zw_iload1 hB dX1_firstBarrenFarm_37 ?_
          refine zw_iret hB hR dX1_firstBarrenFarm_38 rfl ?_
          exact ⟨by rw [hq, zfst_s c7, if_pos (by unfold zbar; simp only [decide_eq_true_eq]; simp only [Nat.add_zero] at z0; rw [z0, z1, z2]; first | exact Or.inl c16 | exact Or.inr (Or.inl c25) | exact Or.inr (Or.inr c34))]; rfl, rfl⟩
        · refine zw_aload0 hB dX1_firstBarrenFarm_28 ?_
          refine zw_iload1 hB dX1_firstBarrenFarm_29 ?_
          refine zw_iconst (x := nI 2) hB dX1_firstBarrenFarm_30 (by decide) ?_
          refine zw_callV2P (M' := mX1_heartOf) hB dX1_firstBarrenFarm_31 zl_X1_63 zg_X1_heartOf (zRc.of hb.1 rfl rfl) (s_X1_heartOf hb (by omega) (by omega)) ?_
          refine zw_if_ne (tgt := 39) hB dX1_firstBarrenFarm_34 (by decide) (fun c34 => ?_) (fun c34 => ?_)
          · refine zw_iinc1 hB dX1_firstBarrenFarm_39 (by first | exact zinc _ | rfl) rfl ?_
            refine zw_goto (tgt := 2) hB dX1_firstBarrenFarm_42 (by decide) ?_
            exact ih c7 (by rw [hq, zfst_s c7, if_neg (by unfold zbar; simp only [decide_eq_true_eq]; rw [← z0] at c16; rw [← z1] at c25; rw [← z2] at c34; simp only [Nat.add_zero] at c16; exact fun q => q.elim c16 (fun q => q.elim c25 c34))])
          · refine zw_iload1 hB dX1_firstBarrenFarm_37 ?_
            refine zw_iret hB hR dX1_firstBarrenFarm_38 rfl ?_
            exact ⟨by rw [hq, zfst_s c7, if_pos (by unfold zbar; simp only [decide_eq_true_eq]; simp only [Nat.add_zero] at z0; rw [z0, z1, z2]; first | exact Or.inl c16 | exact Or.inr (Or.inl c25) | exact Or.inr (Or.inr c34))]; rfl, rfl⟩
  refine zw_iconst (x := nI 0) hB dX1_firstBarrenFarm_0 (by decide) ?_
  refine zw_istore1 hB dX1_firstBarrenFarm_1 rfl ?_
  exact hl 0 (by omega) rfl
/-- what p would grow on farm f -/
def zga (r : zRw) (p f : Nat) : Int32 := if ztd r p < nI 10 then zgrw (zkd r p) (r (5 + 3 * f)) (r (5 + 3 * f + 1)) else nI 0
theorem s_X1_grownAt {n : Nat} {σ : zSt} {b F P : Nat} (hb : zLd b) (hg : zGd (zrow σ b) F P) {p f : Nat} (hp : p < P) (hf : f < 6) : zSem (n + 1) mX1_grownAt [.ref b, .int (nI p), .int (nI f)] σ (zP σ (.int (zga (zrow σ b) p f))) := by
  have hF6 := hg.F6
  have hP6 := hg.P6
  have hF : σ b 0 = nI F := hg.r0
  have hP : σ b 1 = nI P := hg.r1
  refine zSem.of (by decide +kernel) (Nat.le_of_ble_eq_true rfl) (fun X hB hR => ?_)
  show zW X 0 [some (.ref b), some (.int (nI p)), some (.int (nI f))] [] σ
  refine zw_aload0 hB dX1_grownAt_0 ?_
  refine zw_iload1 hB dX1_grownAt_1 ?_
  refine zw_callV1P (M' := mX1_isWorn) hB dX1_grownAt_2 zl_X1_82 zg_X1_isWorn (zRc.of hb.1 rfl rfl) (s_X1_isWorn hb (by omega)) ?_
  rw [zrow_td (σ := σ) (b := b) (p := p) (by omega)]
  refine zw_if_eqB (tgt := 12) hB dX1_grownAt_5 (by decide) (fun c5 => ?_) (fun c5 => ?_)
  · refine zw_aload0 hB dX1_grownAt_12 ?_
    refine zw_getfR hB dX1_grownAt_13 zf_X1_22 hb.1 rfl ?_
    refine zw_iload1 hB dX1_grownAt_16 ?_
    refine zw_ialdV (x := nI (zkd (zrow σ b) p)) hB dX1_grownAt_17 hb.2.2.2.1 (by omega) (by decide) ((zrow_kd (by omega)).trans (hg.kd hp).1) ?_
    refine zw_aload0 hB dX1_grownAt_18 ?_
    refine zw_iload2 hB dX1_grownAt_19 ?_
    refine zw_iconst (x := nI 0) hB dX1_grownAt_20 (by decide) ?_
    refine zw_callV2P (M' := mX1_heartOf) hB dX1_grownAt_21 zl_X1_63 zg_X1_heartOf (zRc.of hb.1 rfl rfl) (s_X1_heartOf hb (by omega) (by omega)) ?_
    refine zw_aload0 hB dX1_grownAt_24 ?_
    refine zw_iload2 hB dX1_grownAt_25 ?_
    refine zw_iconst (x := nI 1) hB dX1_grownAt_26 (by decide) ?_
    refine zw_callV2P (M' := mX1_heartOf) hB dX1_grownAt_27 zl_X1_63 zg_X1_heartOf (zRc.of hb.1 rfl rfl) (s_X1_heartOf hb (by omega) (by omega)) ?_
    refine zw_callS3P (M' := mX0_growing) hB dX1_grownAt_30 zl_X1_86 zg_X0_growing (s_X0_growing (hg.kd hp).2 _ _) ?_
    refine zw_iret hB hR dX1_grownAt_33 rfl ?_
    exact ⟨by unfold zga; first | (rw [if_neg c5]) | (rw [if_pos (Decidable.not_not.mp c5), zrow_g0 (σ := σ) (b := b) hf, zrow_g1 (σ := σ) (b := b) hf]), rfl⟩
  · refine zw_iconst (x := nI 0) hB dX1_grownAt_8 (by decide) ?_
    refine zw_goto (tgt := 33) hB dX1_grownAt_9 (by decide) ?_
    refine zw_iret hB hR dX1_grownAt_33 rfl ?_
    exact ⟨by unfold zga; first | (rw [if_neg c5]) | (rw [if_pos (Decidable.not_not.mp c5), zrow_g0 (σ := σ) (b := b) hf, zrow_g1 (σ := σ) (b := b) hf]), rfl⟩
