/-! MIND: years in thought -/
theorem zGd_none {r : zRw} {F P p : Nat} (h : zGd r F P) (hp : p < P) : zGd (upd r (26 + 4 * p) (-9)) F P := by
  have hP := h.P6
  have o : ∀ k, k ≠ 26 + 4 * p → upd r (26 + 4 * p) (-9) k = r k := fun k hk => zupd_o hk
  refine h.of (fun k hk => o k (by omega)) (by rw [o 3 (by omega)]; exact h.r3) (fun k hk => by rw [o _ (by omega)]; exact h.ht hk) (fun q hq => ⟨o _ (by omega), o _ (by omega)⟩) (fun q hq => by rw [o _ (by omega)]; exact h.td hq) (fun q hq => ?_) (fun q q' hq hq' hne e => ?_) (fun k hk => by rw [o k (by omega)]; exact h.out hk)
  · by_cases e : q = p
    · subst e; rw [zupd_s]; exact Or.inl rfl
    · rw [o _ (by omega)]; exact h.at' hq
  · by_cases e1 : q = p
    · subst e1; rw [zupd_s]
    · rw [o _ (by omega)] at e ⊢
      by_cases e2 : q' = p
      · subst e2; rw [zupd_s] at e; exact e
      · rw [o _ (by omega)] at e; exact h.2.2.2.2.2.2.2.2.1 q q' hq hq' hne e
theorem zGd_step {r : zRw} {F P s : Nat} (h : zGd r F P) (hs : s ≤ 5) : zGd (upd r 2 (nI s)) F P := by
  have o : ∀ k, k ≠ 2 → upd r 2 (nI s) k = r k := fun k hk => zupd_o hk
  exact ⟨h.1, h.2.1, (o 0 (by omega)).trans h.r0, (o 1 (by omega)).trans h.r1, ⟨s, hs, zupd_s⟩, by rw [o 3 (by omega)]; exact h.r3, fun k hk => by rw [o _ (by omega)]; exact h.ht hk, fun p hp => by rw [o _ (by omega), o _ (by omega), o _ (by omega), o _ (by omega)]; exact h.2.2.2.2.2.2.2.1 p hp, fun p q hp hq hne e => by rw [o _ (by omega), o _ (by omega)] at e; rw [o _ (by omega)]; exact h.2.2.2.2.2.2.2.2.1 p q hp hq hne e, fun k hk => by rw [o k (by omega)]; exact h.out hk⟩
theorem zGd_Ex {r : zRw} {F P p q : Nat} (h : zGd r F P) (hp : p < P) (hq : q < P) (hpq : p ≠ q) : zGd (zEx r p q) F P := by
  have hP := h.P6
  have o : ∀ k, k ≠ 26 + 4 * p → k ≠ 26 + 4 * q → zEx r p q k = r k := fun k h1 h2 => by unfold zEx; rw [if_neg h1, if_neg h2]
  have ep : zEx r p q (26 + 4 * p) = r (26 + 4 * q) := by unfold zEx; rw [if_pos rfl]
  have eq : zEx r p q (26 + 4 * q) = r (26 + 4 * p) := by unfold zEx; rw [if_neg (by omega), if_pos rfl]
  have hx : ∀ x, x < P → ∃ x', x' < P ∧ zEx r p q (26 + 4 * x) = r (26 + 4 * x') ∧ (x' = if x = p then q else if x = q then p else x) := by
    intro x hx
    by_cases e1 : x = p
    · subst e1; exact ⟨q, hq, ep, by rw [if_pos rfl]⟩
    · by_cases e2 : x = q
      · subst e2; exact ⟨p, hp, eq, by rw [if_neg e1, if_pos rfl]⟩
      · exact ⟨x, hx, o _ (by omega) (by omega), by rw [if_neg e1, if_neg e2]⟩
  refine h.of (fun k hk => o k (by omega) (by omega)) (by rw [o 3 (by omega) (by omega)]; exact h.r3) (fun k hk => by rw [o _ (by omega) (by omega)]; exact h.ht hk) (fun x hx => ⟨o _ (by omega) (by omega), o _ (by omega) (by omega)⟩) (fun x hx => by rw [o _ (by omega) (by omega)]; exact h.td hx) (fun x hx2 => ?_) (fun x y hx2 hy2 hne e => ?_) (fun k hk => by rw [o k (by omega) (by omega)]; exact h.out hk)
  · obtain ⟨x', h1, h2, -⟩ := hx x hx2
    rw [h2]; exact h.at' h1
  · obtain ⟨x', h1, h2, h3⟩ := hx x hx2
    obtain ⟨y', g1, g2, g3⟩ := hx y hy2
    rw [h2, g2] at e
    rw [h2]
    refine h.2.2.2.2.2.2.2.2.1 x' y' h1 g1 ?_ e
    intro z
    rw [h3, g3] at z
    split at z <;> split at z <;> (try split at z) <;> (try split at z) <;> omega
/-- the first year behind which something is lost -/
def zLt (r : zRw) (F : Nat) : Option Nat := zfst (fun n => (zfst (zbar (zYs r n)) 0 F).isSome) 0 61
/-- of several the first that is more: its label, how much -/
def zgm (lab : Nat → Int32) (g : Nat → Int32) (s : Int32 × Int32) : Nat → Int32 × Int32
  | 0 => s
  | i + 1 => if (zgm lab g s i).2 < g i then (lab i, g i) else zgm lab g s i
theorem zgm_t {lab g : Nat → Int32} {s : Int32 × Int32} {i : Nat} (h : (zgm lab g s i).2 < g i) : zgm lab g s (i + 1) = (lab i, g i) := if_pos h
theorem zgm_f {lab g : Nat → Int32} {s : Int32 × Int32} {i : Nat} (h : ¬ (zgm lab g s i).2 < g i) : zgm lab g s (i + 1) = zgm lab g s i := if_neg h
def zgS (r : zRw) (P n s : Nat) : Int32 := zGs (upd r 2 (nI s)) P n
def zgL (r : zRw) (P n p : Nat) : Int32 := zGs (upd r (26 + 4 * p) (-9)) P n
def zgX (r : zRw) (P n p q : Nat) : Int32 := zGs (zEx r p q) P n
/-- over the pairs, the lesser first -/
def zgP (r : zRw) (P n : Nat) (s : Int32 × Int32) : Nat → Int32 × Int32
  | 0 => s
  | a + 1 => zgm (fun j => nI (10 * a + (a + 1 + j))) (fun j => zgX r P n a (a + 1 + j)) (zgP r P n s a) (P - (a + 1))

theorem s_X3_lostYear {n : Nat} {σ : zSt} {F P : Nat} (hg : zGd (zrow σ 1) F P) : zSem (n + 4) mX3_lostYear [.ref 27, .ref 1] σ (fun v τ => v = some (.int (zopt (zLt (zrow σ 1) F))) ∧ zOut 28 σ τ ∧ ∀ m, zLt (zrow σ 1) F = some m → zrow τ 28 = zYs (zrow σ 1) m) := by
  have hF6 := hg.F6
  have hP6 := hg.P6
  have hP : σ 1 1 = nI P := hg.r1
  refine zSem.of (by decide +kernel) (Nat.le_of_ble_eq_true rfl) (fun X hB hR => ?_)
  show zW X 0 [some (.ref 27), some (.ref 1), none] [] σ
  have hfl : ∀ {p : Nat → Bool} (q : Nat), zfst p 0 F = some q → q < 2 ^ 31 := by
    intro p q hq
    have gen : ∀ k i, zfst p i k = some q → q < i + k := by
      intro k
      induction k with
      | zero => intro i h; cases h
      | succ k ih =>
        intro i h
        unfold zfst at h
        split at h
        · cases h; omega
        · have := ih (i + 1) h; omega
    have := gen F 0 hq
    omega
  have hl : ∀ i, i ≤ 61 → ∀ υ : zSt, zfst (fun n => (zfst (zbar (zYs (zrow σ 1) n)) 0 F).isSome) 0 61 = zfst (fun n => (zfst (zbar (zYs (zrow σ 1) n)) 0 F).isSome) i (61 - i) → zrow υ 28 = zYs (zrow σ 1) (i - 1) → zOut 28 σ υ → zW X 10 [some (.ref 27), some (.ref 1), some (.int (nI i))] [] υ := by
    refine zfor 61 (fun i hi ih => ?_)
    intro υ hq zu ou
    have gu : zGd (zrow υ 28) F P := by rw [zu]; exact zGd_Ys hg _
    rcases Nat.lt_or_ge i 61 with h61 | h61
    · rcases Nat.eq_zero_or_pos i with h0 | h0
      · subst h0
        refine zw_iload2 hB dX3_lostYear_10 ?_
        refine zw_bipush (x := nI 60) hB dX3_lostYear_11 (by decide) ?_
        refine zw_icmp_gtN (tgt := 47) hB dX3_lostYear_13 (by decide) (by omega) (by omega) (fun c13 => by first | exact absurd c13 (by omega) | exact absurd (by omega) c13 | omega) (fun c13 => ?_)
        refine zw_iload2 hB dX3_lostYear_16 ?_
        refine zw_if_le (tgt := 27) hB dX3_lostYear_17 (by decide) (fun c17 => ?_) (fun c17 => by first | exact absurd (by decide) c17 | exact absurd c17 (by decide) | omega)
        refine zw_aload0 hB dX3_lostYear_27 ?_
        refine zw_getfR hB dX3_lostYear_28 zf_X3_12 rfl rfl ?_
        refine zw_callV0 (M' := mX1_firstBarrenFarm) hB dX3_lostYear_31 zl_X3_52 zg_X1_firstBarrenFarm (zRc.of zld28.1 rfl rfl) (s_X1_firstBarrenFarm zld28 gu) (fun v31 σ31 hq31 => ?_)
        obtain ⟨rfl, rfl⟩ := hq31
        rw [zu]
        refine zw_bipush (x := -9) hB dX3_lostYear_34 (by decide) ?_
        refine zw_icmp_eq (tgt := 41) hB dX3_lostYear_36 (by decide) (fun c36 => ?_) (fun c36 => ?_)
        · refine zw_iinc2 hB dX3_lostYear_41 (by first | exact zinc _ | rfl) rfl ?_
          refine zw_goto (tgt := 10) hB dX3_lostYear_44 (by decide) ?_
          refine ih (by omega) _ ?_ zu ou
          rw [hq, zfst_s (N := 61) (by omega), if_neg]
          intro z
          obtain ⟨q, eq⟩ := Option.isSome_iff_exists.mp z
          have c9 : zopt (zfst (zbar (zYs (zrow σ 1) 0)) 0 F) = -9 := c36
          rw [eq] at c9
          exact nI_n9 (hfl _ eq) c9
        · refine zw_iload2 hB dX3_lostYear_39 ?_
          refine zw_iret hB hR dX3_lostYear_40 rfl ?_
          have e9 : zLt (zrow σ 1) F = some 0 := by
            rw [zLt, hq, zfst_s (N := 61) (by omega), if_pos]
            cases ee : zfst (zbar (zYs (zrow σ 1) 0)) 0 F with
            | none => exact absurd (show zopt (zfst (zbar (zYs (zrow σ 1) 0)) 0 F) = -9 by rw [ee]; rfl) c36
            | some q => rfl
          exact ⟨by rw [e9]; rfl, ou, fun m hm => by rw [e9] at hm; cases hm; exact zu⟩
      · obtain ⟨i, rfl⟩ : ∃ j, i = j + 1 := ⟨i - 1, by omega⟩
        have zu : zrow υ 28 = zYs (zrow σ 1) i := zu
        refine zw_iload2 hB dX3_lostYear_10 ?_
        refine zw_bipush (x := nI 60) hB dX3_lostYear_11 (by decide) ?_
        refine zw_icmp_gtN (tgt := 47) hB dX3_lostYear_13 (by decide) (by omega) (by omega) (fun c13 => by first | exact absurd c13 (by omega) | exact absurd (by omega) c13 | omega) (fun c13 => ?_)
        refine zw_iload2 hB dX3_lostYear_16 ?_
        refine zw_if_le (tgt := 27) hB dX3_lostYear_17 (by decide) (fun c17 => by first | exact absurd c17 (nI_nle (by omega) (by omega)) | exact absurd (nI_nle (by omega) (by omega)) c17 | omega) (fun c17 => ?_)
        refine zw_aload0 hB dX3_lostYear_20 ?_
        refine zw_getfR hB dX3_lostYear_21 zf_X3_12 rfl rfl ?_
        refine zw_callV0 (M' := mX1_passYear) hB dX3_lostYear_24 zl_X3_49 zg_X1_passYear (zRc.of zld28.1 rfl rfl) (s_X1_passYear zld28 gu) (fun v24 σ24 hq24 => ?_)
        obtain ⟨rfl, y1, y2, y3, y4, y5⟩ := hq24
        have zv : zrow σ24 28 = zYs (zrow σ 1) (i + 1) := by rw [y1, zu]; rfl
        have gv : zGd (zrow σ24 28) F P := by rw [zv]; exact zGd_Ys hg _
        refine zw_aload0 hB dX3_lostYear_27 ?_
        refine zw_getfR hB dX3_lostYear_28 zf_X3_12 rfl rfl ?_
        refine zw_callV0 (M' := mX1_firstBarrenFarm) hB dX3_lostYear_31 zl_X3_52 zg_X1_firstBarrenFarm (zRc.of zld28.1 rfl rfl) (s_X1_firstBarrenFarm zld28 gv) (fun v31 σ31 hq31 => ?_)
        obtain ⟨rfl, rfl⟩ := hq31
        rw [zv]
        refine zw_bipush (x := -9) hB dX3_lostYear_34 (by decide) ?_
        refine zw_icmp_eq (tgt := 41) hB dX3_lostYear_36 (by decide) (fun c36 => ?_) (fun c36 => ?_)
        · refine zw_iinc2 hB dX3_lostYear_41 (by first | exact zinc _ | rfl) rfl ?_
          refine zw_goto (tgt := 10) hB dX3_lostYear_44 (by decide) ?_
          refine ih (by omega) _ ?_ zv (ou.tr y5)
          rw [hq, zfst_s (N := 61) (by omega), if_neg]
          intro z
          obtain ⟨q, eq⟩ := Option.isSome_iff_exists.mp z
          have c9 : zopt (zfst (zbar (zYs (zrow σ 1) (i + 1))) 0 F) = -9 := c36
          rw [eq] at c9
          exact nI_n9 (hfl _ eq) c9
        · refine zw_iload2 hB dX3_lostYear_39 ?_
          refine zw_iret hB hR dX3_lostYear_40 rfl ?_
          have e9 : zLt (zrow σ 1) F = some (i + 1) := by
            rw [zLt, hq, zfst_s (N := 61) (by omega), if_pos]
            cases ee : zfst (zbar (zYs (zrow σ 1) (i + 1))) 0 F with
            | none => exact absurd (show zopt (zfst (zbar (zYs (zrow σ 1) (i + 1))) 0 F) = -9 by rw [ee]; rfl) c36
            | some q => rfl
          exact ⟨by rw [e9]; rfl, ou.tr y5, fun m hm => by rw [e9] at hm; cases hm; exact zv⟩
    · have hiE : i = 61 := by omega
      refine zw_iload2 hB dX3_lostYear_10 ?_
      refine zw_bipush (x := nI 60) hB dX3_lostYear_11 (by decide) ?_
      refine zw_icmp_gtN (tgt := 47) hB dX3_lostYear_13 (by decide) (by omega) (by omega) (fun c13 => ?_) (fun c13 => by first | exact absurd (by omega) c13 | exact absurd c13 (by omega) | omega)
      refine zw_bipush (x := -9) hB dX3_lostYear_47 (by decide) ?_
      refine zw_iret hB hR dX3_lostYear_49 rfl ?_
      have e9 : zLt (zrow σ 1) F = none := by
        rw [zLt, hq]; exact zfst_e (N := 61) (by omega)
      exact ⟨by rw [e9]; rfl, ou, fun m hm => by rw [e9] at hm; cases hm⟩
  refine zw_aload0 hB dX3_lostYear_0 ?_
  refine zw_getfR hB dX3_lostYear_1 zf_X3_12 rfl rfl ?_
  refine zw_aload1 hB dX3_lostYear_4 ?_
  refine zw_callV1 (M' := mX1_become) hB dX3_lostYear_5 zl_X3_35 zg_X1_become (zRc.of zld28.1 rfl rfl) (s_X1_become zld28 zld1 (by omega)) (fun v5 σ5 hq5 => ?_)
  obtain ⟨rfl, x1, x2⟩ := hq5
  refine zw_iconst (x := nI 0) hB dX3_lostYear_8 (by decide) ?_
  refine zw_istore2 hB dX3_lostYear_9 rfl ?_
  exact hl 0 (by omega) σ5 rfl (by rw [x1]; rfl) x2
theorem s_X3_grownOfAll {n : Nat} {σ : zSt} {F P : Nat} (hg : zGd (zrow σ 1) F P) {m : Nat} (hm : m < 2 ^ 31) : zSem (n + 5) mX3_grownOfAll [.ref 27, .ref 1, .int (nI m)] σ (fun v τ => v = some (.int (zGs (zrow σ 1) P m)) ∧ zOut 28 σ τ) := by
  have hF6 := hg.F6
  have hP6 := hg.P6
  have hP : σ 1 1 = nI P := hg.r1
  refine zSem.of (by decide +kernel) (Nat.le_of_ble_eq_true rfl) (fun X hB hR => ?_)
  show zW X 0 [some (.ref 27), some (.ref 1), some (.int (nI m))] [] σ
  refine zw_aload0 hB dX3_grownOfAll_0 ?_
  refine zw_getfR hB dX3_grownOfAll_1 zf_X3_12 rfl rfl ?_
  refine zw_aload1 hB dX3_grownOfAll_4 ?_
  refine zw_callV1 (M' := mX1_become) hB dX3_grownOfAll_5 zl_X3_35 zg_X1_become (zRc.of zld28.1 rfl rfl) (s_X1_become zld28 zld1 (by omega)) (fun v5 σ5 hq5 => ?_)
  obtain ⟨rfl, x1, x2⟩ := hq5
  have g5 : zGd (zrow σ5 28) F P := by rw [x1]; exact hg
  refine zw_aload0 hB dX3_grownOfAll_8 ?_
  refine zw_getfR hB dX3_grownOfAll_9 zf_X3_12 rfl rfl ?_
  refine zw_iload2 hB dX3_grownOfAll_12 ?_
  refine zw_callV1 (M' := mX1_grownIn) hB dX3_grownOfAll_13 zl_X3_39 zg_X1_grownIn (zRc.of zld28.1 rfl rfl) (s_X1_grownIn zld28 g5 hm) (fun v13 σ13 hq13 => ?_)
  obtain ⟨rfl, y1, y2⟩ := hq13
  rw [x1]
  refine zw_iret hB hR dX3_grownOfAll_16 rfl ?_
  exact ⟨rfl, x2.tr y2⟩
theorem s_X3_grownByStep {n : Nat} {σ : zSt} {F P : Nat} (hg : zGd (zrow σ 1) F P) {s m : Nat} (hs : s ≤ 5) (hm : m < 2 ^ 31) : zSem (n + 5) mX3_grownByStep [.ref 27, .ref 1, .int (nI s), .int (nI m)] σ (fun v τ => v = some (.int (zgS (zrow σ 1) P m s)) ∧ zOut 28 σ τ) := by
  have hF6 := hg.F6
  have hP6 := hg.P6
  have hP : σ 1 1 = nI P := hg.r1
  refine zSem.of (by decide +kernel) (Nat.le_of_ble_eq_true rfl) (fun X hB hR => ?_)
  show zW X 0 [some (.ref 27), some (.ref 1), some (.int (nI s)), some (.int (nI m))] [] σ
  refine zw_aload0 hB dX3_grownByStep_0 ?_
  refine zw_getfR hB dX3_grownByStep_1 zf_X3_12 rfl rfl ?_
  refine zw_aload1 hB dX3_grownByStep_4 ?_
  refine zw_callV1 (M' := mX1_become) hB dX3_grownByStep_5 zl_X3_35 zg_X1_become (zRc.of zld28.1 rfl rfl) (s_X1_become zld28 zld1 (by omega)) (fun v5 σ5 hq5 => ?_)
  obtain ⟨rfl, x1, x2⟩ := hq5
  refine zw_aload0 hB dX3_grownByStep_8 ?_
  refine zw_getfR hB dX3_grownByStep_9 zf_X3_12 rfl rfl ?_
  refine zw_iload2 hB dX3_grownByStep_12 ?_
  refine zw_putfI hB dX3_grownByStep_13 zfw_X3_63 zld28.1 rfl ?_
  have z5 : zrow (zC σ5 28 (upd (σ5 28) 2 (nI s))) 28 = upd (zrow σ 1) 2 (nI s) := by rw [zrow_setf, if_pos (by omega), x1]
  have g5 : zGd (zrow (zC σ5 28 (upd (σ5 28) 2 (nI s))) 28) F P := by rw [z5]; exact zGd_step hg hs
  refine zw_aload0 hB dX3_grownByStep_16 ?_
  refine zw_getfR hB dX3_grownByStep_17 zf_X3_12 rfl rfl ?_
  refine zw_iload3 hB dX3_grownByStep_20 ?_
  refine zw_callV1 (M' := mX1_grownIn) hB dX3_grownByStep_21 zl_X3_39 zg_X1_grownIn (zRc.of zld28.1 rfl rfl) (s_X1_grownIn zld28 g5 hm) (fun v21 σ21 hq21 => ?_)
  obtain ⟨rfl, y1, y2⟩ := hq21
  rw [z5]
  refine zw_iret hB hR dX3_grownByStep_24 rfl ?_
  exact ⟨rfl, x2.tr ((zOut.c (by omega)).tr y2)⟩
theorem s_X3_stepOfMost {n : Nat} {σ : zSt} {F P : Nat} (hg : zGd (zrow σ 1) F P) {m : Nat} (hm : m < 2 ^ 31) : zSem (n + 6) mX3_stepOfMost [.ref 27, .ref 1, .int (nI m)] σ (fun v τ => v = some (.int (zgm nI (zgS (zrow σ 1) P m) (nI 0, -1) 6).1) ∧ zOut 28 σ τ) := by
  have hF6 := hg.F6
  have hP6 := hg.P6
  have hP : σ 1 1 = nI P := hg.r1
  refine zSem.of (by decide +kernel) (Nat.le_of_ble_eq_true rfl) (fun X hB hR => ?_)
  show zW X 0 [some (.ref 27), some (.ref 1), some (.int (nI m)), none, none, none, none] [] σ
  have hl : ∀ i, i ≤ 6 → ∀ (υ : zSt) (a6 : Option Value) (u v : Int32), zOut 28 σ υ → (u, v) = zgm nI (zgS (zrow σ 1) P m) (nI 0, -1) i → zW X 8 [some (.ref 27), some (.ref 1), some (.int (nI m)), some (.int u), some (.int v), some (.int (nI i)), a6] [] υ := by
    refine zfor 6 (fun i hi ih => ?_)
    intro υ a6 u v ou e
    have r1 : zrow υ 1 = zrow σ 1 := zrow_congr (fun c _ _ => ou c (by omega))
    have gu : zGd (zrow υ 1) F P := by rw [r1]; exact hg
    have e2 : v = (zgm nI (zgS (zrow σ 1) P m) (nI 0, -1) i).2 := by rw [← e]
    refine zw_iload5 hB dX3_stepOfMost_8 ?_
    refine zw_iconst (x := nI 5) hB dX3_stepOfMost_10 (by decide) ?_
    refine zw_icmp_gtN (tgt := 44) hB dX3_stepOfMost_11 (by decide) (by omega) (by omega) (fun c11 => ?_) (fun c11 => ?_)
    · refine zw_iload3 hB dX3_stepOfMost_44 ?_
      refine zw_iret hB hR dX3_stepOfMost_45 rfl ?_
      exact ⟨by rw [show 6 = i by omega, ← e], ou⟩
    · refine zw_aload0 hB dX3_stepOfMost_14 ?_
      refine zw_aload1 hB dX3_stepOfMost_15 ?_
      refine zw_iload5 hB dX3_stepOfMost_16 ?_
      refine zw_iload2 hB dX3_stepOfMost_18 ?_
      refine zw_callV3 (M' := mX3_grownByStep) hB dX3_stepOfMost_19 zl_X3_67 zg_X3_grownByStep (zRc.of rfl rfl rfl) (s_X3_grownByStep gu (by omega) hm) (fun v19 σ19 hq19 => ?_)
      obtain ⟨rfl, y2⟩ := hq19
      rw [r1]
      refine zw_istore6 hB dX3_stepOfMost_22 rfl ?_
      refine zw_iload6 hB dX3_stepOfMost_24 ?_
      refine zw_iload4 hB dX3_stepOfMost_26 ?_
      refine zw_icmp_le (tgt := 38) hB dX3_stepOfMost_28 (by decide) (fun c28 => ?_) (fun c28 => ?_)
      · refine zw_iinc5 hB dX3_stepOfMost_38 (by first | exact zinc _ | rfl) rfl ?_
        refine zw_goto (tgt := 8) hB dX3_stepOfMost_41 (by decide) ?_
        exact ih (by omega) _ _ _ _ (ou.tr y2) (by rw [zgm_f (by rw [← e2]; exact Int32.not_lt.mpr c28)]; exact e)
      · refine zw_iload6 hB dX3_stepOfMost_31 ?_
        refine zw_istore4 hB dX3_stepOfMost_33 rfl ?_
        refine zw_iload5 hB dX3_stepOfMost_35 ?_
        refine zw_istore3 hB dX3_stepOfMost_37 rfl ?_
        refine zw_iinc5 hB dX3_stepOfMost_38 (by first | exact zinc _ | rfl) rfl ?_
        refine zw_goto (tgt := 8) hB dX3_stepOfMost_41 (by decide) ?_
        exact ih (by omega) _ _ _ _ (ou.tr y2) (by rw [zgm_t (by rw [← e2]; exact Int32.not_le.mp c28)])
  refine zw_iconst (x := nI 0) hB dX3_stepOfMost_0 (by decide) ?_
  refine zw_istore3 hB dX3_stepOfMost_1 rfl ?_
  refine zw_iconst (x := -1) hB dX3_stepOfMost_2 (by decide) ?_
  refine zw_istore4 hB dX3_stepOfMost_3 rfl ?_
  refine zw_iconst (x := nI 0) hB dX3_stepOfMost_5 (by decide) ?_
  refine zw_istore5 hB dX3_stepOfMost_6 rfl ?_
  exact hl 0 (by omega) σ _ _ _ zOut.rf rfl
theorem s_X3_farmerToSend {n : Nat} {σ : zSt} {F P : Nat} (hg : zGd (zrow σ 1) F P) {m : Nat} (hm : m < 2 ^ 31) : zSem (n + 6) mX3_farmerToSend [.ref 27, .ref 1, .int (nI m)] σ (fun v τ => v = some (.int (zgm nI (zgL (zrow σ 1) P m) (-9, zGs (zrow σ 1) P m) P).1) ∧ zOut 28 σ τ) := by
  have hF6 := hg.F6
  have hP6 := hg.P6
  have hP : σ 1 1 = nI P := hg.r1
  refine zSem.of (by decide +kernel) (Nat.le_of_ble_eq_true rfl) (fun X hB hR => ?_)
  show zW X 0 [some (.ref 27), some (.ref 1), some (.int (nI m)), none, none, none, none] [] σ
  have hl : ∀ i, i ≤ P → ∀ (υ : zSt) (a6 : Option Value) (u v : Int32), zOut 28 σ υ → (u, v) = zgm nI (zgL (zrow σ 1) P m) (-9, zGs (zrow σ 1) P m) i → zW X 14 [some (.ref 27), some (.ref 1), some (.int (nI m)), some (.int v), some (.int u), some (.int (nI i)), a6] [] υ := by
    refine zfor P (fun i hi ih => ?_)
    intro υ a6 u v ou e
    have r1 : zrow υ 1 = zrow σ 1 := zrow_congr (fun c _ _ => ou c (by omega))
    have k1 : υ 1 1 = nI P := (congrFun (ou 1 (by omega)) 1).trans hP
    have e2 : v = (zgm nI (zgL (zrow σ 1) P m) (-9, zGs (zrow σ 1) P m) i).2 := by rw [← e]
    refine zw_iload5 hB dX3_farmerToSend_14 ?_
    refine zw_aload1 hB dX3_farmerToSend_16 ?_
    refine zw_getfV (x := nI P) hB dX3_farmerToSend_17 zf_X3_75 zld1.1 rfl (k1) ?_
    refine zw_icmp_geN (tgt := 72) hB dX3_farmerToSend_20 (by decide) (by omega) (by omega) (fun c20 => ?_) (fun c20 => ?_)
    · refine zw_iload4 hB dX3_farmerToSend_72 ?_
      refine zw_iret hB hR dX3_farmerToSend_74 rfl ?_
      have ePi : i = P := by omega
      subst ePi
      exact ⟨by rw [← e], ou⟩
    · refine zw_aload0 hB dX3_farmerToSend_23 ?_
      refine zw_getfR hB dX3_farmerToSend_24 zf_X3_12 rfl rfl ?_
      refine zw_aload1 hB dX3_farmerToSend_27 ?_
      refine zw_callV1 (M' := mX1_become) hB dX3_farmerToSend_28 zl_X3_35 zg_X1_become (zRc.of zld28.1 rfl rfl) (s_X1_become zld28 zld1 (by omega)) (fun v28 σ28 hq28 => ?_)
      obtain ⟨rfl, x1, x2⟩ := hq28
      refine zw_aload0 hB dX3_farmerToSend_31 ?_
      refine zw_getfR hB dX3_farmerToSend_32 zf_X3_12 rfl rfl ?_
      refine zw_getfR hB dX3_farmerToSend_35 zf_X3_78 zld28.1 rfl ?_
      refine zw_iload5 hB dX3_farmerToSend_38 ?_
      refine zw_bipush (x := -9) hB dX3_farmerToSend_40 (by decide) ?_
      refine zw_iastN hB dX3_farmerToSend_42 zld28.2.2.2.2.2.2.1 (by omega) (by decide) ?_
      have z5 : zrow (zC σ28 (28 + 6) (upd (σ28 (28 + 6)) i (-9))) 28 = upd (zrow σ 1) (26 + 4 * i) (-9) := by rw [zrow_set4 (w := 3) (by omega) (show i < 6 by omega) (by omega), x1, r1]
      have g5 : zGd (zrow (zC σ28 (28 + 6) (upd (σ28 (28 + 6)) i (-9))) 28) F P := by rw [z5]; exact zGd_none hg c20
      refine zw_aload0 hB dX3_farmerToSend_43 ?_
      refine zw_getfR hB dX3_farmerToSend_44 zf_X3_12 rfl rfl ?_
      refine zw_iload2 hB dX3_farmerToSend_47 ?_
      refine zw_callV1 (M' := mX1_grownIn) hB dX3_farmerToSend_48 zl_X3_39 zg_X1_grownIn (zRc.of zld28.1 rfl rfl) (s_X1_grownIn zld28 g5 hm) (fun v48 σ48 hq48 => ?_)
      obtain ⟨rfl, y1, y2⟩ := hq48
      rw [z5]
      refine zw_istore6 hB dX3_farmerToSend_51 rfl ?_
      refine zw_iload6 hB dX3_farmerToSend_53 ?_
      refine zw_iload3 hB dX3_farmerToSend_55 ?_
      refine zw_icmp_le (tgt := 66) hB dX3_farmerToSend_56 (by decide) (fun c56 => ?_) (fun c56 => ?_)
      · refine zw_iinc5 hB dX3_farmerToSend_66 (by first | exact zinc _ | rfl) rfl ?_
        refine zw_goto (tgt := 14) hB dX3_farmerToSend_69 (by decide) ?_
        exact ih c20 _ _ _ _ (ou.tr (x2.tr ((zOut.c (by omega)).tr y2))) (by rw [zgm_f (by rw [← e2]; exact Int32.not_lt.mpr c56)]; exact e)
      · refine zw_iload6 hB dX3_farmerToSend_59 ?_
        refine zw_istore3 hB dX3_farmerToSend_61 rfl ?_
        refine zw_iload5 hB dX3_farmerToSend_62 ?_
        refine zw_istore4 hB dX3_farmerToSend_64 rfl ?_
        refine zw_iinc5 hB dX3_farmerToSend_66 (by first | exact zinc _ | rfl) rfl ?_
        refine zw_goto (tgt := 14) hB dX3_farmerToSend_69 (by decide) ?_
        exact ih c20 _ _ _ _ (ou.tr (x2.tr ((zOut.c (by omega)).tr y2))) (by rw [zgm_t (by rw [← e2]; exact Int32.not_le.mp c56)]; rfl)
  refine zw_aload0 hB dX3_farmerToSend_0 ?_
  refine zw_aload1 hB dX3_farmerToSend_1 ?_
  refine zw_iload2 hB dX3_farmerToSend_2 ?_
  refine zw_callV2 (M' := mX3_grownOfAll) hB dX3_farmerToSend_3 zl_X3_71 zg_X3_grownOfAll (zRc.of rfl rfl rfl) (s_X3_grownOfAll hg hm) (fun v3 σ3 hq3 => ?_)
  obtain ⟨rfl, y2⟩ := hq3
  refine zw_istore3 hB dX3_farmerToSend_6 rfl ?_
  refine zw_bipush (x := -9) hB dX3_farmerToSend_7 (by decide) ?_
  refine zw_istore4 hB dX3_farmerToSend_9 rfl ?_
  refine zw_iconst (x := nI 0) hB dX3_farmerToSend_11 (by decide) ?_
  refine zw_istore5 hB dX3_farmerToSend_12 rfl ?_
  exact hl 0 (by omega) _ _ _ _ y2 rfl
