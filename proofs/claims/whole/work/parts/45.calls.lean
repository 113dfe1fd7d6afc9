/-! CLASS: two, whoSat, judge, count -/
/-- p sits nowhere, if c -/
def zN1 (r : zRw) (c : Bool) (p : Nat) : zRw := if c = true then upd r (26 + 4 * p) (-9) else r
theorem zGd_N1 {r : zRw} {F P p : Nat} {c : Bool} (h : zGd r F P) (hp : p < P) : zGd (zN1 r c p) F P := by
  unfold zN1
  split
  · exact zGd_none h hp
  · exact h
/-- choice k: bit 1, a rests; bit 0, b rests -/
def zW2 (r : zRw) (a b k : Nat) : zRw := zN1 (zN1 r (decide (k / 2 = 1)) a) (decide (k % 2 = 1)) b
def zwo (r : zRw) (a b m k x : Nat) : Int32 := zGo (zW2 r a b k) x m - ztd (zYs (zW2 r a b k) m) x
def zTw (r : zRw) (a b m : Nat) : Option Nat := zfst (fun k => decide (zwo r a b m ((k + 2) % 4) a ≤ zwo r a b m k a ∧ zwo r a b m (k + 1 - 2 * (k % 2)) b ≤ zwo r a b m k b)) 0 4
def ztwo (o : Option Nat) : Int32 := match o with | none => -9 | some k => nI (10 * (k / 2) + k % 2)
theorem zk2 : ∀ k, k < 4 → (nI k &&& nI 2 = 0 ↔ ¬ k / 2 = 1) := by decide +kernel
theorem zk1 : ∀ k, k < 4 → (nI k &&& nI 1 = 0 ↔ ¬ k % 2 = 1) := by decide +kernel
theorem zx2 : ∀ k, k < 4 → nI k ^^^ nI 2 = nI ((k + 2) % 4) := by decide +kernel
theorem zx1 : ∀ k, k < 4 → nI k ^^^ nI 1 = nI (k + 1 - 2 * (k % 2)) := by decide +kernel
theorem zxs : ∀ k, k < 4 → nI 10 * (nI k >>> (nI 1 &&& 31)) + (nI k &&& nI 1) = nI (10 * (k / 2) + k % 2) := by decide +kernel
/-- the greens of farm f behind 0, 1, .. years are l -/
def zgr (r : zRw) (f : Nat) (l : List Int32) : Bool := decide (∀ i, i < l.length → zgn (zYs r i) f = l.getD i 0)
theorem zgr_t {r : zRw} {f : Nat} {l : List Int32} (h : ∀ i, i < l.length → zgn (zYs r i) f = l.getD i 0) : zgr r f l = true := decide_eq_true h
theorem zgr_f {r : zRw} {f : Nat} {l : List Int32} {i : Nat} (hi : i < l.length) (h : ¬ zgn (zYs r i) f = l.getD i 0) : ¬ zgr r f l = true := fun z => h (of_decide_eq_true z i hi)
theorem zGd_kf {r : zRw} {F P p w k : Nat} (h : zGd r F P) (hp : p < P) (hw : w = 0 ∧ k < 6 ∨ w = 1 ∧ k < 10) : zGd (upd r (23 + 4 * p + w) (nI k)) F P := by
  have hP := h.P6
  have o : ∀ j, j ≠ 23 + 4 * p + w → upd r (23 + 4 * p + w) (nI k) j = r j := fun j hj => zupd_o hj
  refine ⟨h.1, h.2.1, (o 0 (by omega)).trans h.r0, (o 1 (by omega)).trans h.r1, by rw [o 2 (by omega)]; exact h.r2, by rw [o 3 (by omega)]; exact h.r3, fun j hj => by rw [o _ (by omega)]; exact h.ht hj, fun q hq => ⟨?_, ?_, by rw [o _ (by omega)]; exact h.td hq, by rw [o _ (by omega)]; exact h.at' hq⟩, fun q q' hq hq' hne e => by rw [o _ (by omega), o _ (by omega)] at e; rw [o _ (by omega)]; exact h.2.2.2.2.2.2.2.2.1 q q' hq hq' hne e, fun j hj => by rw [o j (by omega)]; exact h.out hj⟩
  · by_cases e : 23 + 4 * q = 23 + 4 * p + w
    · rw [e, zupd_s]; exact ⟨k, by omega, rfl⟩
    · rw [o _ e]; exact (h.2.2.2.2.2.2.2.1 q hq).1
  · by_cases e : 24 + 4 * q = 23 + 4 * p + w
    · rw [e, zupd_s]; exact ⟨k, by omega, rfl⟩
    · rw [o _ e]; exact (h.2.2.2.2.2.2.2.1 q hq).2.1
def zWs (r : zRw) (f p : Nat) (w : Int32) (l : List Int32) : Int32 := if w = nI 0 then zset (fun k => zgr (upd r (23 + 4 * p) (nI k)) f l) 6 else zset (fun k => zgr (upd r (24 + 4 * p) (nI k)) f l) 10
def zJu (r : zRw) (P : Nat) (l : List Int32) : Option Nat := zfst (fun i => decide (¬ zAl (zYs r i) P = l.getD i 0)) 0 l.length
def q_two (S : zS) (a b m : Int32) : Value × zS := zq S (zfo (znb (zIn a (zNP S.1) ∧ zIn b (zNP S.1) ∧ ¬ a = b)) (zir m (nI 1) (nI 30)) (nI 0)) (.int (ztwo (zTw S.1 a.toNatClampNeg b.toNatClampNeg m.toNatClampNeg)), S)
def q_whoSat (S : zS) (f p w : Int32) : Value × zS := zq S (zfo (znb (zIn f (zNF S.1) ∧ zIn p (zNP S.1))) (zou w (nI 1)) (nI 0)) (.int (zWs S.1 f.toNatClampNeg p.toNatClampNeg w S.2.2.2.1), S)
def q_judge (S : zS) : Value × zS := (.int (zopt (zJu S.1 (zNP S.1) S.2.2.2.1)), (S.1, S.2.1, S.2.2.1, [], S.2.2.2.2))
def a_count (S : zS) (w : Int32) : Int32 := if nI 11 ≤ w ∧ w ≤ nI 16 then S.2.2.2.2 (w.toNatClampNeg - 10) else if w = nI 0 then S.1 0 else if w = nI 1 then S.1 1 else if w = nI 2 then S.1 4 else if w = nI 3 then S.1 2 else if w = nI 4 then S.1 3 else if w = nI 5 then zsum (zgn S.1) (zNF S.1) else if w = nI 6 then nI S.2.2.2.1.length else if w = nI 7 then nI S.2.2.1.length else -9
def q_count (S : zS) (w : Int32) : Value × zS := (.int (a_count S w), S)
theorem zCQ.ok5 {S : zS} {σ τ : zSt} {v v' : Value} (h : zCW S σ) (hv : v = v') (k : ∀ c, (c ≤ 16 ∨ c = 25 ∨ c = 26 ∨ 48 ≤ c) → τ c = σ c) : zCQ (v', S) σ (some v) τ :=
  ⟨by rw [hv], h.keep (fun c hc => k c (by omega)), fun c hc => k c (by omega)⟩

theorem s_X3_weigh {n : Nat} {σ : zSt} {F P : Nat} (hg : zGd (zrow σ 1) F P) {a b m k : Nat} (ha : a < P) (hb : b < P) (hm : m < 100) (hk : k < 4) : zSem (n + 4) mX3_weigh [.ref 27, .ref 1, .int (nI a), .int (nI b), .int (nI m), .int (nI k)] σ (fun v τ => v = none ∧ τ 47 = upd (upd (σ 47) (2 * k) (zwo (zrow σ 1) a b m k a)) (2 * k + 1) (zwo (zrow σ 1) a b m k b) ∧ ∀ d, (d < 28 ∨ 36 ≤ d) → d ≠ 47 → τ d = σ d) := by
  have hF6 := hg.F6
  have hP6 := hg.P6
  have hP : σ 1 1 = nI P := hg.r1
  have hgW : zGd (zW2 (zrow σ 1) a b k) F P := zGd_N1 (zGd_N1 hg ha) hb
  refine zSem.of (by decide +kernel) (Nat.le_of_ble_eq_true rfl) (fun X hB hR => ?_)
  show zW X 0 [some (.ref 27), some (.ref 1), some (.int (nI a)), some (.int (nI b)), some (.int (nI m)), some (.int (nI k)), none, none, none] [] σ
  have hl : ∀ i, i ≤ m → ∀ υ : zSt, zrow υ 28 = zYs (zW2 (zrow σ 1) a b k) i → zOut 28 σ υ → zW X 53 [some (.ref 27), some (.ref 1), some (.int (nI a)), some (.int (nI b)), some (.int (nI m)), some (.int (nI k)), some (.int (zGo (zW2 (zrow σ 1) a b k) a i)), some (.int (zGo (zW2 (zrow σ 1) a b k) b i)), some (.int (nI i))] [] υ := by
    refine zfor m (fun i hi ih => ?_)
    intro υ zu ou
    have gu : zGd (zrow υ 28) F P := by rw [zu]; exact zGd_Ys hgW i
    refine zw_iload8 hB dX3_weigh_53 ?_
    refine zw_iload4 hB dX3_weigh_55 ?_
    refine zw_icmp_geN (tgt := 101) hB dX3_weigh_57 (by decide) (by omega) (by omega) (fun c57 => ?_) (fun c57 => ?_)
    · have ei : i = m := by omega
      have zu2 : zrow υ 28 = zYs (zW2 (zrow σ 1) a b k) m := by rw [zu, ei]
      refine zw_aload0 hB dX3_weigh_101 ?_
      refine zw_getfR hB dX3_weigh_102 zf_X3_32 rfl rfl ?_
      refine zw_iconst (x := nI 2) hB dX3_weigh_105 (by decide) ?_
      refine zw_iload5 hB dX3_weigh_106 ?_
      refine zw_imulN hB dX3_weigh_108 ?_
      refine zw_iload6 hB dX3_weigh_109 ?_
      refine zw_aload0 hB dX3_weigh_111 ?_
      refine zw_getfR hB dX3_weigh_112 zf_X3_12 rfl rfl ?_
      refine zw_getfR hB dX3_weigh_115 zf_X3_99 zld28.1 rfl ?_
      refine zw_iload2 hB dX3_weigh_118 ?_
      refine zw_ialdV (x := ztd (zYs (zW2 (zrow σ 1) a b k) m) a) hB dX3_weigh_119 zld28.2.2.2.2.2.1 (by omega) (by decide) (by rw [← zu2]; exact zrow_td (by omega)) ?_
      refine zw_isub hB dX3_weigh_120 ?_
      refine zw_iastN hB dX3_weigh_121 rfl (by omega) (by decide) ?_
      refine zw_aload0 hB dX3_weigh_122 ?_
      refine zw_getfR hB dX3_weigh_123 zf_X3_32 rfl rfl ?_
      refine zw_iconst (x := nI 2) hB dX3_weigh_126 (by decide) ?_
      refine zw_iload5 hB dX3_weigh_127 ?_
      refine zw_imulN hB dX3_weigh_129 ?_
      refine zw_iconst (x := nI 1) hB dX3_weigh_130 (by decide) ?_
      refine zw_iaddN hB dX3_weigh_131 ?_
      refine zw_iload7 hB dX3_weigh_132 ?_
      refine zw_aload0 hB dX3_weigh_134 ?_
      refine zw_getfR hB dX3_weigh_135 zf_X3_12 rfl rfl ?_
      refine zw_getfR hB dX3_weigh_138 zf_X3_99 zld28.1 rfl ?_
      refine zw_iload3 hB dX3_weigh_141 ?_
      refine zw_ialdV (x := ztd (zYs (zW2 (zrow σ 1) a b k) m) b) hB dX3_weigh_142 zld28.2.2.2.2.2.1 (by omega) (by decide) (by rw [zC_n (by omega), ← zu2]; exact zrow_td (by omega)) ?_
      refine zw_isub hB dX3_weigh_143 ?_
      refine zw_iastN hB dX3_weigh_144 rfl (by omega) (by decide) ?_
      refine zw_vret hB hR dX3_weigh_145 rfl ?_
      refine ⟨rfl, ?_, fun d hd hd7 => ?_⟩
      · rw [zC_s, zC_s, ou 47 (by omega), ei]; rfl
      · rw [zC_n hd7, zC_n hd7]; exact ou d (by omega)
    · refine zw_aload0 hB dX3_weigh_60 ?_
      refine zw_getfR hB dX3_weigh_61 zf_X3_12 rfl rfl ?_
      refine zw_callV0 (M' := mX1_passYear) hB dX3_weigh_64 zl_X3_49 zg_X1_passYear (zRc.of zld28.1 rfl rfl) (s_X1_passYear zld28 gu) (fun v64 σ64 hq64 => ?_)
      obtain ⟨rfl, y1, y2, y3, y4, y5⟩ := hq64
      refine zw_iload6 hB dX3_weigh_67 ?_
      refine zw_aload0 hB dX3_weigh_69 ?_
      refine zw_getfR hB dX3_weigh_70 zf_X3_12 rfl rfl ?_
      refine zw_getfR hB dX3_weigh_73 zf_X3_96 zld28.1 rfl ?_
      refine zw_iload2 hB dX3_weigh_76 ?_
      refine zw_ialdV (x := zgw (zYs (zW2 (zrow σ 1) a b k) i) a) hB dX3_weigh_77 zld28.2.2.2.2.2.2.2 (by omega) (by decide) (by rw [← zu]; exact y4 a ha) ?_
      refine zw_iadd hB dX3_weigh_78 ?_
      refine zw_istore6 hB dX3_weigh_79 (by first | rfl | assumption) ?_
      refine zw_iload7 hB dX3_weigh_81 ?_
      refine zw_aload0 hB dX3_weigh_83 ?_
      refine zw_getfR hB dX3_weigh_84 zf_X3_12 rfl rfl ?_
      refine zw_getfR hB dX3_weigh_87 zf_X3_96 zld28.1 rfl ?_
      refine zw_iload3 hB dX3_weigh_90 ?_
      refine zw_ialdV (x := zgw (zYs (zW2 (zrow σ 1) a b k) i) b) hB dX3_weigh_91 zld28.2.2.2.2.2.2.2 (by omega) (by decide) (by rw [← zu]; exact y4 b hb) ?_
      refine zw_iadd hB dX3_weigh_92 ?_
      refine zw_istore7 hB dX3_weigh_93 (by first | rfl | assumption) ?_
      refine zw_iinc8 hB dX3_weigh_95 (by first | exact zinc _ | rfl) (by first | rfl | assumption) ?_
      refine zw_goto (tgt := 53) hB dX3_weigh_98 (by decide) ?_
      exact ih c57 σ64 (by rw [y1, zu]; rfl) (ou.tr y5)
  have hj2 : ∀ υ : zSt, zrow υ 28 = (zW2 (zrow σ 1) a b k) → zOut 28 σ υ → ∀ a6 a7 a8 : Option Value, zc1 a6 = true → zc1 a7 = true → zW X 44 [some (.ref 27), some (.ref 1), some (.int (nI a)), some (.int (nI b)), some (.int (nI m)), some (.int (nI k)), a6, a7, a8] [] υ := by
    intro υ zu ou a6 a7 a8 k6 k7
    refine zw_iconst (x := nI 0) hB dX3_weigh_44 (by decide) ?_
    refine zw_istore6 hB dX3_weigh_45 (by first | rfl | assumption) ?_
    refine zw_iconst (x := nI 0) hB dX3_weigh_47 (by decide) ?_
    refine zw_istore7 hB dX3_weigh_48 (by first | rfl | assumption) ?_
    refine zw_iconst (x := nI 0) hB dX3_weigh_50 (by decide) ?_
    refine zw_istore8 hB dX3_weigh_51 (by first | rfl | assumption) ?_
    exact hl 0 (by omega) υ zu ou
  have hj1 : ∀ υ : zSt, zrow υ 28 = zN1 (zrow σ 1) (decide (k / 2 = 1)) a → zOut 28 σ υ → zW X 26 [some (.ref 27), some (.ref 1), some (.int (nI a)), some (.int (nI b)), some (.int (nI m)), some (.int (nI k)), none, none, none] [] υ := by
    intro υ zu ou
    refine zw_iload5 hB dX3_weigh_26 ?_
    refine zw_iconst (x := nI 1) hB dX3_weigh_28 (by decide) ?_
    refine zw_iand hB dX3_weigh_29 ?_
    refine zw_if_eq (tgt := 44) hB dX3_weigh_30 (by decide) (fun c30 => ?_) (fun c30 => ?_)
    · refine hj2 υ ?_ ou _ _ _ rfl rfl
      rw [zu, zW2, show decide (k % 2 = 1) = false from decide_eq_false ((zk1 k hk).mp c30)]; rfl
    · refine zw_aload0 hB dX3_weigh_33 ?_
      refine zw_getfR hB dX3_weigh_34 zf_X3_12 rfl rfl ?_
      refine zw_getfR hB dX3_weigh_37 zf_X3_78 zld28.1 rfl ?_
      refine zw_iload3 hB dX3_weigh_40 ?_
      refine zw_bipush (x := -9) hB dX3_weigh_41 (by decide) ?_
      refine zw_iastN hB dX3_weigh_43 zld28.2.2.2.2.2.2.1 (by omega) (by decide) ?_
      refine hj2 _ ?_ (ou.tr (zOut.c (by omega))) _ _ _ rfl rfl
      rw [zrow_set4 (w := 3) (by omega) (show b < 6 by omega) (by omega), zu, zW2, show decide (k % 2 = 1) = true from decide_eq_true (Decidable.not_not.mp (fun z => c30 ((zk1 k hk).mpr z)))]; rfl
  refine zw_aload0 hB dX3_weigh_0 ?_
  refine zw_getfR hB dX3_weigh_1 zf_X3_12 rfl rfl ?_
  refine zw_aload1 hB dX3_weigh_4 ?_
  refine zw_callV1 (M' := mX1_become) hB dX3_weigh_5 zl_X3_35 zg_X1_become (zRc.of zld28.1 rfl rfl) (s_X1_become zld28 zld1 (by omega)) (fun v5 σ5 hq5 => ?_)
  obtain ⟨rfl, x1, x2⟩ := hq5
  refine zw_iload5 hB dX3_weigh_8 ?_
  refine zw_iconst (x := nI 2) hB dX3_weigh_10 (by decide) ?_
  refine zw_iand hB dX3_weigh_11 ?_
  refine zw_if_eq (tgt := 26) hB dX3_weigh_12 (by decide) (fun c12 => ?_) (fun c12 => ?_)
  · refine hj1 σ5 ?_ x2
    rw [x1, show decide (k / 2 = 1) = false from decide_eq_false ((zk2 k hk).mp c12)]; rfl
  · refine zw_aload0 hB dX3_weigh_15 ?_
    refine zw_getfR hB dX3_weigh_16 zf_X3_12 rfl rfl ?_
    refine zw_getfR hB dX3_weigh_19 zf_X3_78 zld28.1 rfl ?_
    refine zw_iload2 hB dX3_weigh_22 ?_
    refine zw_bipush (x := -9) hB dX3_weigh_23 (by decide) ?_
    refine zw_iastN hB dX3_weigh_25 zld28.2.2.2.2.2.2.1 (by omega) (by decide) ?_
    refine hj1 _ ?_ (x2.tr (zOut.c (by omega)))
    rw [zrow_set4 (w := 3) (by omega) (show a < 6 by omega) (by omega), x1, show decide (k / 2 = 1) = true from decide_eq_true (Decidable.not_not.mp (fun z => c12 ((zk2 k hk).mpr z)))]; rfl
theorem s_X3_restingPair {n : Nat} {σ : zSt} {F P : Nat} (hg : zGd (zrow σ 1) F P) {a b m : Nat} (ha : a < P) (hb : b < P) (hm : m < 100) : zSem (n + 5) mX3_restingPair [.ref 27, .ref 1, .int (nI a), .int (nI b), .int (nI m)] σ (fun v τ => v = some (.int (ztwo (zTw (zrow σ 1) a b m))) ∧ ∀ d, (d < 28 ∨ 36 ≤ d) → d ≠ 47 → τ d = σ d) := by
  have hF6 := hg.F6
  have hP6 := hg.P6
  have hP : σ 1 1 = nI P := hg.r1
  refine zSem.of (by decide +kernel) (Nat.le_of_ble_eq_true rfl) (fun X hB hR => ?_)
  show zW X 0 [some (.ref 27), some (.ref 1), some (.int (nI a)), some (.int (nI b)), some (.int (nI m)), none, none, none] [] σ
  have hl2 : ∀ υ : zSt, (∀ j, j < 4 → υ 47 (2 * j) = zwo (zrow σ 1) a b m j a ∧ υ 47 (2 * j + 1) = zwo (zrow σ 1) a b m j b) → (∀ d, (d < 28 ∨ 36 ≤ d) → d ≠ 47 → υ d = σ d) → ∀ i, i ≤ 4 → ∀ a6 a7 : Option Value, zc1 a6 = true → zTw (zrow σ 1) a b m = zfst (fun k => decide (zwo (zrow σ 1) a b m ((k + 2) % 4) a ≤ zwo (zrow σ 1) a b m k a ∧ zwo (zrow σ 1) a b m (k + 1 - 2 * (k % 2)) b ≤ zwo (zrow σ 1) a b m k b)) i (4 - i) → zW X 29 [some (.ref 27), some (.ref 1), some (.int (nI a)), some (.int (nI b)), some (.int (nI m)), some (.int (nI i)), a6, a7] [] υ := by
    intro υ hw ou
    refine zfor 4 (fun i hi ih => ?_)
    intro a6 a7 k6 hq
    refine zw_iload5 hB dX3_restingPair_29 ?_
    refine zw_iconst (x := nI 4) hB dX3_restingPair_31 (by decide) ?_
    refine zw_icmp_geN (tgt := 128) hB dX3_restingPair_32 (by decide) (by omega) (by omega) (fun c32 => ?_) (fun c32 => ?_)
    · refine zw_bipush (x := -9) hB dX3_restingPair_128 (by decide) ?_
      refine zw_iret hB hR dX3_restingPair_130 rfl ?_
      have e9 : zTw (zrow σ 1) a b m = none := by rw [hq]; exact zfst_e (by omega)
      exact ⟨by rw [e9]; rfl, ou⟩
    · refine zw_aload0 hB dX3_restingPair_35 ?_
      refine zw_getfR hB dX3_restingPair_36 zf_X3_32 rfl rfl ?_
      refine zw_iconst (x := nI 2) hB dX3_restingPair_39 (by decide) ?_
      refine zw_iload5 hB dX3_restingPair_40 ?_
      refine zw_imulN hB dX3_restingPair_42 ?_
      refine zw_ialdV (x := zwo (zrow σ 1) a b m (i) a) hB dX3_restingPair_43 rfl (by omega) (by decide) ((hw i (by omega)).1) ?_
      refine zw_aload0 hB dX3_restingPair_44 ?_
      refine zw_getfR hB dX3_restingPair_45 zf_X3_32 rfl rfl ?_
      refine zw_iconst (x := nI 2) hB dX3_restingPair_48 (by decide) ?_
      refine zw_iload5 hB dX3_restingPair_49 ?_
      refine zw_iconst (x := nI 2) hB dX3_restingPair_51 (by decide) ?_
      refine zw_ixor hB dX3_restingPair_52 ?_
      refine zw_imul hB dX3_restingPair_53 ?_
      refine zw_eqI (y := nI (2 * ((i + 2) % 4))) (by rw [zx2 i (by omega), pk_mul]) ?_
      refine zw_ialdV (x := zwo (zrow σ 1) a b m ((i + 2) % 4) a) hB dX3_restingPair_54 rfl (by omega) (by decide) ((hw ((i + 2) % 4) (by omega)).1) ?_
      refine zw_icmp_lt (tgt := 62) hB dX3_restingPair_55 (by decide) (fun c55 => ?_) (fun c55 => ?_)
      · refine zw_iconst (x := nI 0) hB dX3_restingPair_62 (by decide) ?_
        refine zw_istore6 hB dX3_restingPair_63 (by first | rfl | assumption) ?_
        refine zw_aload0 hB dX3_restingPair_65 ?_
        refine zw_getfR hB dX3_restingPair_66 zf_X3_32 rfl rfl ?_
        refine zw_iconst (x := nI 2) hB dX3_restingPair_69 (by decide) ?_
        refine zw_iload5 hB dX3_restingPair_70 ?_
        refine zw_imulN hB dX3_restingPair_72 ?_
        refine zw_iconst (x := nI 1) hB dX3_restingPair_73 (by decide) ?_
        refine zw_iaddN hB dX3_restingPair_74 ?_
        refine zw_ialdV (x := zwo (zrow σ 1) a b m (i) b) hB dX3_restingPair_75 rfl (by omega) (by decide) ((hw i (by omega)).2) ?_
        refine zw_aload0 hB dX3_restingPair_76 ?_
        refine zw_getfR hB dX3_restingPair_77 zf_X3_32 rfl rfl ?_
        refine zw_iconst (x := nI 2) hB dX3_restingPair_80 (by decide) ?_
        refine zw_iload5 hB dX3_restingPair_81 ?_
        refine zw_iconst (x := nI 1) hB dX3_restingPair_83 (by decide) ?_
        refine zw_ixor hB dX3_restingPair_84 ?_
        refine zw_imul hB dX3_restingPair_85 ?_
        refine zw_iconst (x := nI 1) hB dX3_restingPair_86 (by decide) ?_
        refine zw_iadd hB dX3_restingPair_87 ?_
        refine zw_eqI (y := nI (2 * (i + 1 - 2 * (i % 2)) + 1)) (by rw [zx1 i (by omega), pk_mul, nI_add]) ?_
        refine zw_ialdV (x := zwo (zrow σ 1) a b m (i + 1 - 2 * (i % 2)) b) hB dX3_restingPair_88 rfl (by omega) (by decide) ((hw (i + 1 - 2 * (i % 2)) (by omega)).2) ?_
        refine zw_icmp_lt (tgt := 96) hB dX3_restingPair_89 (by decide) (fun c89 => ?_) (fun c89 => ?_)
        · refine zw_iconst (x := nI 0) hB dX3_restingPair_96 (by decide) ?_
          refine zw_istore7 hB dX3_restingPair_97 (by first | rfl | assumption) ?_
          refine zw_iload6 hB dX3_restingPair_99 ?_
          refine zw_if_eq (tgt := 122) hB dX3_restingPair_101 (by decide) (fun c101 => ?_) (fun c101 => by first | exact absurd (by decide) c101 | exact absurd c101 (by decide) | omega)
          refine zw_iinc5 hB dX3_restingPair_122 (by first | exact zinc _ | rfl) (by first | rfl | assumption) ?_
          refine zw_goto (tgt := 29) hB dX3_restingPair_125 (by decide) ?_
          refine ih c32 _ _ rfl ?_
          rw [hq, zfst_s c32, if_neg (by rw [decide_eq_true_eq]; exact fun z => Int32.not_le.mpr c55 z.1)]
        · refine zw_iconst (x := nI 1) hB dX3_restingPair_92 (by decide) ?_
          refine zw_goto (tgt := 97) hB dX3_restingPair_93 (by decide) ?_
          refine zw_istore7 hB dX3_restingPair_97 (by first | rfl | assumption) ?_
          refine zw_iload6 hB dX3_restingPair_99 ?_
          refine zw_if_eq (tgt := 122) hB dX3_restingPair_101 (by decide) (fun c101 => ?_) (fun c101 => by first | exact absurd (by decide) c101 | exact absurd c101 (by decide) | omega)
          refine zw_iinc5 hB dX3_restingPair_122 (by first | exact zinc _ | rfl) (by first | rfl | assumption) ?_
          refine zw_goto (tgt := 29) hB dX3_restingPair_125 (by decide) ?_
          refine ih c32 _ _ rfl ?_
          rw [hq, zfst_s c32, if_neg (by rw [decide_eq_true_eq]; exact fun z => Int32.not_le.mpr c55 z.1)]
      · refine zw_iconst (x := nI 1) hB dX3_restingPair_58 (by decide) ?_
        refine zw_goto (tgt := 63) hB dX3_restingPair_59 (by decide) ?_
        refine zw_istore6 hB dX3_restingPair_63 (by first | rfl | assumption) ?_
        refine zw_aload0 hB dX3_restingPair_65 ?_
        refine zw_getfR hB dX3_restingPair_66 zf_X3_32 rfl rfl ?_
        refine zw_iconst (x := nI 2) hB dX3_restingPair_69 (by decide) ?_
        refine zw_iload5 hB dX3_restingPair_70 ?_
        refine zw_imulN hB dX3_restingPair_72 ?_
        refine zw_iconst (x := nI 1) hB dX3_restingPair_73 (by decide) ?_
        refine zw_iaddN hB dX3_restingPair_74 ?_
        refine zw_ialdV (x := zwo (zrow σ 1) a b m (i) b) hB dX3_restingPair_75 rfl (by omega) (by decide) ((hw i (by omega)).2) ?_
        refine zw_aload0 hB dX3_restingPair_76 ?_
        refine zw_getfR hB dX3_restingPair_77 zf_X3_32 rfl rfl ?_
        refine zw_iconst (x := nI 2) hB dX3_restingPair_80 (by decide) ?_
        refine zw_iload5 hB dX3_restingPair_81 ?_
        refine zw_iconst (x := nI 1) hB dX3_restingPair_83 (by decide) ?_
        refine zw_ixor hB dX3_restingPair_84 ?_
        refine zw_imul hB dX3_restingPair_85 ?_
        refine zw_iconst (x := nI 1) hB dX3_restingPair_86 (by decide) ?_
        refine zw_iadd hB dX3_restingPair_87 ?_
        refine zw_eqI (y := nI (2 * (i + 1 - 2 * (i % 2)) + 1)) (by rw [zx1 i (by omega), pk_mul, nI_add]) ?_
        refine zw_ialdV (x := zwo (zrow σ 1) a b m (i + 1 - 2 * (i % 2)) b) hB dX3_restingPair_88 rfl (by omega) (by decide) ((hw (i + 1 - 2 * (i % 2)) (by omega)).2) ?_
        refine zw_icmp_lt (tgt := 96) hB dX3_restingPair_89 (by decide) (fun c89 => ?_) (fun c89 => ?_)
        · refine zw_iconst (x := nI 0) hB dX3_restingPair_96 (by decide) ?_
          refine zw_istore7 hB dX3_restingPair_97 (by first | rfl | assumption) ?_
          refine zw_iload6 hB dX3_restingPair_99 ?_
          refine zw_if_eq (tgt := 122) hB dX3_restingPair_101 (by decide) (fun c101 => by first | exact absurd c101 (by decide) | exact absurd (by decide) c101 | omega) (fun c101 => ?_)
          refine zw_iload7 hB dX3_restingPair_104 ?_
          refine zw_if_eq (tgt := 122) hB dX3_restingPair_106 (by decide) (fun c106 => ?_) (fun c106 => by first | exact absurd (by decide) c106 | exact absurd c106 (by decide) | omega)
          refine zw_iinc5 hB dX3_restingPair_122 (by first | exact zinc _ | rfl) (by first | rfl | assumption) ?_
          refine zw_goto (tgt := 29) hB dX3_restingPair_125 (by decide) ?_
          refine ih c32 _ _ rfl ?_
          rw [hq, zfst_s c32, if_neg (by rw [decide_eq_true_eq]; exact fun z => Int32.not_le.mpr c89 z.2)]
        · refine zw_iconst (x := nI 1) hB dX3_restingPair_92 (by decide) ?_
          refine zw_goto (tgt := 97) hB dX3_restingPair_93 (by decide) ?_
          refine zw_istore7 hB dX3_restingPair_97 (by first | rfl | assumption) ?_
          refine zw_iload6 hB dX3_restingPair_99 ?_
          refine zw_if_eq (tgt := 122) hB dX3_restingPair_101 (by decide) (fun c101 => by first | exact absurd c101 (by decide) | exact absurd (by decide) c101 | omega) (fun c101 => ?_)
          refine zw_iload7 hB dX3_restingPair_104 ?_
          refine zw_if_eq (tgt := 122) hB dX3_restingPair_106 (by decide) (fun c106 => by first | exact absurd c106 (by decide) | exact absurd (by decide) c106 | omega) (fun c106 => ?_)
          refine zw_bipush (x := nI 10) hB dX3_restingPair_109 (by decide) ?_
          refine zw_iload5 hB dX3_restingPair_111 ?_
          refine zw_iconst (x := nI 1) hB dX3_restingPair_113 (by decide) ?_
          refine zw_ishr hB dX3_restingPair_114 ?_
          refine zw_imul hB dX3_restingPair_115 ?_
          refine zw_iload5 hB dX3_restingPair_116 ?_
          refine zw_iconst (x := nI 1) hB dX3_restingPair_118 (by decide) ?_
          refine zw_iand hB dX3_restingPair_119 ?_
          refine zw_iadd hB dX3_restingPair_120 ?_
          refine zw_eqI (y := nI (10 * (i / 2) + i % 2)) (zxs i (by omega)) ?_
          refine zw_iret hB hR dX3_restingPair_121 rfl ?_
          have e9 : zTw (zrow σ 1) a b m = some i := by
            rw [hq, zfst_s c32, if_pos (by rw [decide_eq_true_eq]; exact ⟨Int32.not_lt.mp c55, Int32.not_lt.mp c89⟩)]
          exact ⟨by rw [e9]; rfl, ou⟩
  have hl1 : ∀ i, i ≤ 4 → ∀ υ : zSt, (∀ j, j < i → υ 47 (2 * j) = zwo (zrow σ 1) a b m j a ∧ υ 47 (2 * j + 1) = zwo (zrow σ 1) a b m j b) → (∀ d, (d < 28 ∨ 36 ≤ d) → d ≠ 47 → υ d = σ d) → zW X 3 [some (.ref 27), some (.ref 1), some (.int (nI a)), some (.int (nI b)), some (.int (nI m)), some (.int (nI i)), none, none] [] υ := by
    refine zfor 4 (fun i hi ih => ?_)
    intro υ hw ou
    have r1 : zrow υ 1 = zrow σ 1 := zrow_congr (fun c _ _ => ou c (by omega) (by omega))
    have gu : zGd (zrow υ 1) F P := by rw [r1]; exact hg
    refine zw_iload5 hB dX3_restingPair_3 ?_
    refine zw_iconst (x := nI 4) hB dX3_restingPair_5 (by decide) ?_
    refine zw_icmp_geN (tgt := 26) hB dX3_restingPair_6 (by decide) (by omega) (by omega) (fun c6 => ?_) (fun c6 => ?_)
    · refine zw_iconst (x := nI 0) hB dX3_restingPair_26 (by decide) ?_
      refine zw_istore5 hB dX3_restingPair_27 (by first | rfl | assumption) ?_
      exact hl2 υ (fun j hj => hw j (by omega)) ou 0 (by omega) _ _ rfl rfl
    · refine zw_aload0 hB dX3_restingPair_9 ?_
      refine zw_aload1 hB dX3_restingPair_10 ?_
      refine zw_iload2 hB dX3_restingPair_11 ?_
      refine zw_iload3 hB dX3_restingPair_12 ?_
      refine zw_iload4 hB dX3_restingPair_13 ?_
      refine zw_iload5 hB dX3_restingPair_15 ?_
      refine zw_callV5 (M' := mX3_weigh) hB dX3_restingPair_17 zl_X3_92 zg_X3_weigh (zRc.of rfl rfl rfl) (s_X3_weigh gu ha hb hm (by omega)) (fun v17 σ17 hq17 => ?_)
      obtain ⟨rfl, y1, y2⟩ := hq17
      rw [r1] at y1
      refine zw_iinc5 hB dX3_restingPair_20 (by first | exact zinc _ | rfl) (by first | rfl | assumption) ?_
      refine zw_goto (tgt := 3) hB dX3_restingPair_23 (by decide) ?_
      refine ih c6 σ17 (fun j hj => ?_) (fun d h1 h2 => (y2 d h1 h2).trans (ou d h1 h2))
      rw [y1]
      by_cases e : j = i
      · subst e
        rw [zupd_o (by omega), zupd_s, zupd_s]
        exact ⟨rfl, rfl⟩
      · rw [zupd_o (by omega), zupd_o (by omega), zupd_o (by omega), zupd_o (by omega)]
        exact hw j (by omega)
  refine zw_iconst (x := nI 0) hB dX3_restingPair_0 (by decide) ?_
  refine zw_istore5 hB dX3_restingPair_1 (by first | rfl | assumption) ?_
  exact hl1 0 (by omega) σ (fun j hj => absurd hj (by omega)) (fun _ _ _ => rfl)
theorem s_X5_two {n : Nat} {σ : zSt} {S : zS} (hS : zOk S) (h : zCW S σ) (a b m : Int32) : zSem (n + 6) mX5_two [.ref 0, .int a, .int b, .int m] σ (zCQ (q_two S a b m) σ) := by
  obtain ⟨⟨⟨F, P, hg0⟩, y0, hy0, ey0⟩, hkp, hlt, hrw⟩ := id hS
  have hnF := hg0.nF
  have hnP := hg0.nP
  have hr0 := h.1
  have hg : zGd (zrow σ 1) F P := by rw [hr0]; exact hg0
  have hF6 := hg.F6
  have hP6 := hg.P6
  have hF : σ 1 0 = nI F := hg.r0
  have hP : σ 1 1 = nI P := hg.r1
  unfold q_two
  try rw [hnF]
  try rw [hnP]
  refine zSem.of (by decide +kernel) (Nat.le_of_ble_eq_true rfl) (fun X hB hR => ?_)
  show zW X 0 [some (.ref 0), some (.int a), some (.int b), some (.int m), none] [] σ
  refine zw_aload0 hB dX5_two_0 ?_
  refine zw_getfR hB dX5_two_1 zf_X5_10 rfl rfl ?_
  refine zw_iload1 hB dX5_two_4 ?_
  refine zw_callV1P (M' := mX1_hasFarmer) hB dX5_two_5 zl_X5_98 zg_X1_hasFarmer (zRc.of zld1.1 rfl rfl) (s_hasFarmer zld1 hP _) ?_
  refine zw_if_eqB (tgt := 31) hB dX5_two_8 (by decide) (fun c8 => ?_) (fun c8 => ?_)
  · refine zw_iconst (x := nI 0) hB dX5_two_31 (by decide) ?_
    refine zw_eqI (y := zb (zIn a P ∧ zIn b P ∧ ¬ a = b)) (zb_f (fun z => c8 z.1)).symm ?_
    refine zw_callS1P (M' := mX5_nobodyUnless) hB dX5_two_32 zl_X5_82 zg_X5_nobodyUnless (s_X5_nobodyUnless) ?_
    refine zw_iload3 hB dX5_two_35 ?_
    refine zw_iconst (x := nI 1) hB dX5_two_36 (by decide) ?_
    refine zw_bipush (x := nI 30) hB dX5_two_37 (by decide) ?_
    refine zw_callS3P (M' := mX5_inRange) hB dX5_two_39 zl_X5_43 zg_X5_inRange (s_X5_inRange _ _ _) ?_
    refine zw_iconst (x := nI 0) hB dX5_two_42 (by decide) ?_
    refine zw_callS3P (M' := mX5_firstOf) hB dX5_two_43 zl_X5_55 zg_X5_firstOf (s_X5_firstOf _ _ _) ?_
    refine zw_istore4 hB dX5_two_46 (by first | rfl | assumption) ?_
    refine zw_iload4 hB dX5_two_48 ?_
    refine zw_if_eq (tgt := 62) hB dX5_two_50 (by decide) (fun c50 => ?_) (fun c50 => ?_)
    · obtain ⟨e1, e2, -⟩ := zfo_0 c50
      obtain ⟨z1, z2, z3⟩ := znb_0 e1
      obtain ⟨j, hj, rfl⟩ := zIn_j (by omega) z1
      obtain ⟨i, hi, rfl⟩ := zIn_j (by omega) z2
      obtain ⟨m, -, hm, rfl⟩ := zir_0 (by omega) (by omega) e2
      refine zw_aload0 hB dX5_two_62 ?_
      refine zw_getfR hB dX5_two_63 zf_X5_32 rfl rfl ?_
      refine zw_aload0 hB dX5_two_66 ?_
      refine zw_getfR hB dX5_two_67 zf_X5_10 rfl rfl ?_
      refine zw_iload1 hB dX5_two_70 ?_
      refine zw_iload2 hB dX5_two_71 ?_
      refine zw_iload3 hB dX5_two_72 ?_
      refine zw_callV4 (M' := mX3_restingPair) hB dX5_two_73 zl_X5_220 zg_X3_restingPair (zRc.of rfl rfl rfl) (s_X3_restingPair hg hj hi (by omega)) (fun v73 σ73 hq73 => ?_)
      obtain ⟨rfl, x1⟩ := hq73
      refine zw_iret hB hR dX5_two_76 rfl ?_
      refine zCQ.ok h c50 ?_ (fun c hc => x1 c (by omega) (by omega))
      rw [nI_clamp (by omega), nI_clamp (by omega), nI_clamp (by omega), ← hr0]
    · obtain ⟨k, hk, hc⟩ := (zcd_fo zcd_nb zcd_ir zcd_0).resolve_left c50
      refine zw_aload0 hB dX5_two_53 ?_
      refine zw_iload4 hB dX5_two_54 ?_
      refine zw_callV1 (M' := mX5_refuse) hB dX5_two_56 zl_X5_58 zg_X5_refuse (zRc.of rfl rfl rfl) (s_X5_refuse _ hc hk) (fun v56 σ56 hq56 => ?_)
      obtain ⟨rfl, rfl⟩ := hq56
      refine zw_goto (tgt := 76) hB dX5_two_59 (by decide) ?_
      refine zw_iret hB hR dX5_two_76 rfl ?_
      exact zCQ.no h c50 hk hc
  · refine zw_aload0 hB dX5_two_11 ?_
    refine zw_getfR hB dX5_two_12 zf_X5_10 rfl rfl ?_
    refine zw_iload2 hB dX5_two_15 ?_
    refine zw_callV1P (M' := mX1_hasFarmer) hB dX5_two_16 zl_X5_98 zg_X1_hasFarmer (zRc.of zld1.1 rfl rfl) (s_hasFarmer zld1 hP _) ?_
    refine zw_if_eqB (tgt := 31) hB dX5_two_19 (by decide) (fun c19 => ?_) (fun c19 => ?_)
    · refine zw_iconst (x := nI 0) hB dX5_two_31 (by decide) ?_
      refine zw_eqI (y := zb (zIn a P ∧ zIn b P ∧ ¬ a = b)) (zb_f (fun z => c19 z.2.1)).symm ?_
      refine zw_callS1P (M' := mX5_nobodyUnless) hB dX5_two_32 zl_X5_82 zg_X5_nobodyUnless (s_X5_nobodyUnless) ?_
      refine zw_iload3 hB dX5_two_35 ?_
      refine zw_iconst (x := nI 1) hB dX5_two_36 (by decide) ?_
      refine zw_bipush (x := nI 30) hB dX5_two_37 (by decide) ?_
      refine zw_callS3P (M' := mX5_inRange) hB dX5_two_39 zl_X5_43 zg_X5_inRange (s_X5_inRange _ _ _) ?_
      refine zw_iconst (x := nI 0) hB dX5_two_42 (by decide) ?_
      refine zw_callS3P (M' := mX5_firstOf) hB dX5_two_43 zl_X5_55 zg_X5_firstOf (s_X5_firstOf _ _ _) ?_
      refine zw_istore4 hB dX5_two_46 (by first | rfl | assumption) ?_
      refine zw_iload4 hB dX5_two_48 ?_
      refine zw_if_eq (tgt := 62) hB dX5_two_50 (by decide) (fun c50 => ?_) (fun c50 => ?_)
      · obtain ⟨e1, e2, -⟩ := zfo_0 c50
        obtain ⟨z1, z2, z3⟩ := znb_0 e1
        obtain ⟨j, hj, rfl⟩ := zIn_j (by omega) z1
        obtain ⟨i, hi, rfl⟩ := zIn_j (by omega) z2
        obtain ⟨m, -, hm, rfl⟩ := zir_0 (by omega) (by omega) e2
        refine zw_aload0 hB dX5_two_62 ?_
        refine zw_getfR hB dX5_two_63 zf_X5_32 rfl rfl ?_
        refine zw_aload0 hB dX5_two_66 ?_
        refine zw_getfR hB dX5_two_67 zf_X5_10 rfl rfl ?_
        refine zw_iload1 hB dX5_two_70 ?_
        refine zw_iload2 hB dX5_two_71 ?_
        refine zw_iload3 hB dX5_two_72 ?_
        refine zw_callV4 (M' := mX3_restingPair) hB dX5_two_73 zl_X5_220 zg_X3_restingPair (zRc.of rfl rfl rfl) (s_X3_restingPair hg hj hi (by omega)) (fun v73 σ73 hq73 => ?_)
        obtain ⟨rfl, x1⟩ := hq73
        refine zw_iret hB hR dX5_two_76 rfl ?_
        refine zCQ.ok h c50 ?_ (fun c hc => x1 c (by omega) (by omega))
        rw [nI_clamp (by omega), nI_clamp (by omega), nI_clamp (by omega), ← hr0]
      · obtain ⟨k, hk, hc⟩ := (zcd_fo zcd_nb zcd_ir zcd_0).resolve_left c50
        refine zw_aload0 hB dX5_two_53 ?_
        refine zw_iload4 hB dX5_two_54 ?_
        refine zw_callV1 (M' := mX5_refuse) hB dX5_two_56 zl_X5_58 zg_X5_refuse (zRc.of rfl rfl rfl) (s_X5_refuse _ hc hk) (fun v56 σ56 hq56 => ?_)
        obtain ⟨rfl, rfl⟩ := hq56
        refine zw_goto (tgt := 76) hB dX5_two_59 (by decide) ?_
        refine zw_iret hB hR dX5_two_76 rfl ?_
        exact zCQ.no h c50 hk hc
    · refine zw_iload1 hB dX5_two_22 ?_
      refine zw_iload2 hB dX5_two_23 ?_
      refine zw_icmp_eq (tgt := 31) hB dX5_two_24 (by decide) (fun c24 => ?_) (fun c24 => ?_)
      · refine zw_iconst (x := nI 0) hB dX5_two_31 (by decide) ?_
        refine zw_eqI (y := zb (zIn a P ∧ zIn b P ∧ ¬ a = b)) (zb_f (fun z => z.2.2 c24)).symm ?_
        refine zw_callS1P (M' := mX5_nobodyUnless) hB dX5_two_32 zl_X5_82 zg_X5_nobodyUnless (s_X5_nobodyUnless) ?_
        refine zw_iload3 hB dX5_two_35 ?_
        refine zw_iconst (x := nI 1) hB dX5_two_36 (by decide) ?_
        refine zw_bipush (x := nI 30) hB dX5_two_37 (by decide) ?_
        refine zw_callS3P (M' := mX5_inRange) hB dX5_two_39 zl_X5_43 zg_X5_inRange (s_X5_inRange _ _ _) ?_
        refine zw_iconst (x := nI 0) hB dX5_two_42 (by decide) ?_
        refine zw_callS3P (M' := mX5_firstOf) hB dX5_two_43 zl_X5_55 zg_X5_firstOf (s_X5_firstOf _ _ _) ?_
        refine zw_istore4 hB dX5_two_46 (by first | rfl | assumption) ?_
        refine zw_iload4 hB dX5_two_48 ?_
        refine zw_if_eq (tgt := 62) hB dX5_two_50 (by decide) (fun c50 => ?_) (fun c50 => ?_)
        · obtain ⟨e1, e2, -⟩ := zfo_0 c50
          obtain ⟨z1, z2, z3⟩ := znb_0 e1
          obtain ⟨j, hj, rfl⟩ := zIn_j (by omega) z1
          obtain ⟨i, hi, rfl⟩ := zIn_j (by omega) z2
          obtain ⟨m, -, hm, rfl⟩ := zir_0 (by omega) (by omega) e2
          refine zw_aload0 hB dX5_two_62 ?_
          refine zw_getfR hB dX5_two_63 zf_X5_32 rfl rfl ?_
          refine zw_aload0 hB dX5_two_66 ?_
          refine zw_getfR hB dX5_two_67 zf_X5_10 rfl rfl ?_
          refine zw_iload1 hB dX5_two_70 ?_
          refine zw_iload2 hB dX5_two_71 ?_
          refine zw_iload3 hB dX5_two_72 ?_
          refine zw_callV4 (M' := mX3_restingPair) hB dX5_two_73 zl_X5_220 zg_X3_restingPair (zRc.of rfl rfl rfl) (s_X3_restingPair hg hj hi (by omega)) (fun v73 σ73 hq73 => ?_)
          obtain ⟨rfl, x1⟩ := hq73
          refine zw_iret hB hR dX5_two_76 rfl ?_
          refine zCQ.ok h c50 ?_ (fun c hc => x1 c (by omega) (by omega))
          rw [nI_clamp (by omega), nI_clamp (by omega), nI_clamp (by omega), ← hr0]
        · obtain ⟨k, hk, hc⟩ := (zcd_fo zcd_nb zcd_ir zcd_0).resolve_left c50
          refine zw_aload0 hB dX5_two_53 ?_
          refine zw_iload4 hB dX5_two_54 ?_
          refine zw_callV1 (M' := mX5_refuse) hB dX5_two_56 zl_X5_58 zg_X5_refuse (zRc.of rfl rfl rfl) (s_X5_refuse _ hc hk) (fun v56 σ56 hq56 => ?_)
          obtain ⟨rfl, rfl⟩ := hq56
          refine zw_goto (tgt := 76) hB dX5_two_59 (by decide) ?_
          refine zw_iret hB hR dX5_two_76 rfl ?_
          exact zCQ.no h c50 hk hc
      · refine zw_iconst (x := nI 1) hB dX5_two_27 (by decide) ?_
        refine zw_goto (tgt := 32) hB dX5_two_28 (by decide) ?_
        refine zw_eqI (y := zb (zIn a P ∧ zIn b P ∧ ¬ a = b)) (zb_t ⟨c8, c19, c24⟩).symm ?_
        refine zw_callS1P (M' := mX5_nobodyUnless) hB dX5_two_32 zl_X5_82 zg_X5_nobodyUnless (s_X5_nobodyUnless) ?_
        refine zw_iload3 hB dX5_two_35 ?_
        refine zw_iconst (x := nI 1) hB dX5_two_36 (by decide) ?_
        refine zw_bipush (x := nI 30) hB dX5_two_37 (by decide) ?_
        refine zw_callS3P (M' := mX5_inRange) hB dX5_two_39 zl_X5_43 zg_X5_inRange (s_X5_inRange _ _ _) ?_
        refine zw_iconst (x := nI 0) hB dX5_two_42 (by decide) ?_
        refine zw_callS3P (M' := mX5_firstOf) hB dX5_two_43 zl_X5_55 zg_X5_firstOf (s_X5_firstOf _ _ _) ?_
        refine zw_istore4 hB dX5_two_46 (by first | rfl | assumption) ?_
        refine zw_iload4 hB dX5_two_48 ?_
        refine zw_if_eq (tgt := 62) hB dX5_two_50 (by decide) (fun c50 => ?_) (fun c50 => ?_)
        · obtain ⟨e1, e2, -⟩ := zfo_0 c50
          obtain ⟨z1, z2, z3⟩ := znb_0 e1
          obtain ⟨j, hj, rfl⟩ := zIn_j (by omega) z1
          obtain ⟨i, hi, rfl⟩ := zIn_j (by omega) z2
          obtain ⟨m, -, hm, rfl⟩ := zir_0 (by omega) (by omega) e2
          refine zw_aload0 hB dX5_two_62 ?_
          refine zw_getfR hB dX5_two_63 zf_X5_32 rfl rfl ?_
          refine zw_aload0 hB dX5_two_66 ?_
          refine zw_getfR hB dX5_two_67 zf_X5_10 rfl rfl ?_
          refine zw_iload1 hB dX5_two_70 ?_
          refine zw_iload2 hB dX5_two_71 ?_
          refine zw_iload3 hB dX5_two_72 ?_
          refine zw_callV4 (M' := mX3_restingPair) hB dX5_two_73 zl_X5_220 zg_X3_restingPair (zRc.of rfl rfl rfl) (s_X3_restingPair hg hj hi (by omega)) (fun v73 σ73 hq73 => ?_)
          obtain ⟨rfl, x1⟩ := hq73
          refine zw_iret hB hR dX5_two_76 rfl ?_
          refine zCQ.ok h c50 ?_ (fun c hc => x1 c (by omega) (by omega))
          rw [nI_clamp (by omega), nI_clamp (by omega), nI_clamp (by omega), ← hr0]
        · obtain ⟨k, hk, hc⟩ := (zcd_fo zcd_nb zcd_ir zcd_0).resolve_left c50
          refine zw_aload0 hB dX5_two_53 ?_
          refine zw_iload4 hB dX5_two_54 ?_
          refine zw_callV1 (M' := mX5_refuse) hB dX5_two_56 zl_X5_58 zg_X5_refuse (zRc.of rfl rfl rfl) (s_X5_refuse _ hc hk) (fun v56 σ56 hq56 => ?_)
          obtain ⟨rfl, rfl⟩ := hq56
          refine zw_goto (tgt := 76) hB dX5_two_59 (by decide) ?_
          refine zw_iret hB hR dX5_two_76 rfl ?_
          exact zCQ.no h c50 hk hc
theorem s_X3_suppose {n : Nat} {σ : zSt} {F P : Nat} (hg : zGd (zrow σ 1) F P) {p : Nat} (hp : p < P) (x y : Int32) : zSem (n + 2) mX3_suppose [.ref 27, .ref 1, .int (nI p), .int x, .int y] σ (fun v τ => v = none ∧ zrow τ 28 = upd (upd (zrow σ 1) (23 + 4 * p) x) (24 + 4 * p) y ∧ zOut 28 σ τ) := by
  have hF6 := hg.F6
  have hP6 := hg.P6
  have hP : σ 1 1 = nI P := hg.r1
  refine zSem.of (by decide +kernel) (Nat.le_of_ble_eq_true rfl) (fun X hB hR => ?_)
  show zW X 0 [some (.ref 27), some (.ref 1), some (.int (nI p)), some (.int x), some (.int y)] [] σ
  refine zw_aload0 hB dX3_suppose_0 ?_
  refine zw_getfR hB dX3_suppose_1 zf_X3_12 rfl rfl ?_
  refine zw_aload1 hB dX3_suppose_4 ?_
  refine zw_callV1 (M' := mX1_become) hB dX3_suppose_5 zl_X3_35 zg_X1_become (zRc.of zld28.1 rfl rfl) (s_X1_become zld28 zld1 (by omega)) (fun v5 σ5 hq5 => ?_)
  obtain ⟨rfl, x1, x2⟩ := hq5
  refine zw_aload0 hB dX3_suppose_8 ?_
  refine zw_getfR hB dX3_suppose_9 zf_X3_12 rfl rfl ?_
  refine zw_getfR hB dX3_suppose_12 zf_X3_43 zld28.1 rfl ?_
  refine zw_iload2 hB dX3_suppose_15 ?_
  refine zw_iload3 hB dX3_suppose_16 ?_
  refine zw_iastN hB dX3_suppose_17 zld28.2.2.2.1 (by omega) (by decide) ?_
  refine zw_aload0 hB dX3_suppose_18 ?_
  refine zw_getfR hB dX3_suppose_19 zf_X3_12 rfl rfl ?_
  refine zw_getfR hB dX3_suppose_22 zf_X3_46 zld28.1 rfl ?_
  refine zw_iload2 hB dX3_suppose_25 ?_
  refine zw_iload4 hB dX3_suppose_26 ?_
  refine zw_iastN hB dX3_suppose_28 zld28.2.2.2.2.1 (by omega) (by decide) ?_
  refine zw_vret hB hR dX3_suppose_29 rfl ?_
  refine ⟨rfl, ?_, x2.tr ((zOut.c (by omega)).tr (zOut.c (by omega)))⟩
  rw [zrow_set4 (w := 1) (by omega) (show p < 6 by omega) (by omega), zrow_set4 (w := 0) (by omega) (show p < 6 by omega) (by omega), x1]
theorem s_X5_greensAreTheRow {n : Nat} {σ : zSt} {F P f : Nat} {l : List Int32} (hg : zGd (zrow σ 28) F P) (hf : f < F) (hl7 : σ 0 7 = nI l.length) (h16 : l.length ≤ 16) (hl48 : zArr (σ 48) l) : zSem (n + 4) mX5_greensAreTheRow [.ref 0, .int (nI f)] σ (fun v τ => v = some (.int (zb (zgr (zrow σ 28) f l = true))) ∧ zOut 28 σ τ) := by
  have hF6 := hg.F6
  refine zSem.of (by decide +kernel) (Nat.le_of_ble_eq_true rfl) (fun X hB hR => ?_)
  show zW X 0 [some (.ref 0), some (.int (nI f)), none] [] σ
  have hl : ∀ i, i ≤ l.length → ∀ υ : zSt, (∀ q, q < i → zgn (zYs (zrow σ 28) q) f = l.getD q 0) → zrow υ 28 = zYs (zrow σ 28) (i - 1) → zOut 28 σ υ → zW X 2 [some (.ref 0), some (.int (nI f)), some (.int (nI i))] [] υ := by
    refine zfor l.length (fun i hi ih => ?_)
    intro υ hh zu ou
    have gu : zGd (zrow υ 28) F P := by rw [zu]; exact zGd_Ys hg _
    rcases Nat.eq_zero_or_pos i with h0 | h0
    · subst h0
      have zu : zrow υ 28 = zYs (zrow σ 28) 0 := zu
      refine zw_iload2 hB dX5_greensAreTheRow_2 ?_
      refine zw_aload0 hB dX5_greensAreTheRow_3 ?_
      refine zw_getfV (x := nI l.length) hB dX5_greensAreTheRow_4 zf_X5_252 rfl rfl ((congrFun (ou 0 (by omega)) 7).trans hl7) ?_
      refine zw_icmp_geN (tgt := 52) hB dX5_greensAreTheRow_7 (by decide) (by omega) (by omega) (fun c7 => ?_) (fun c7 => ?_)
      · refine zw_iconst (x := nI 1) hB dX5_greensAreTheRow_52 (by decide) ?_
        refine zw_zret hB hR dX5_greensAreTheRow_53 rfl (by decide) ?_
        exact ⟨by rw [zb_t (zgr_t (fun q hq => hh q (by omega)))]; rfl, ou⟩
      · refine zw_iload2 hB dX5_greensAreTheRow_10 ?_
        refine zw_if_le (tgt := 24) hB dX5_greensAreTheRow_11 (by decide) (fun c11 => ?_) (fun c11 => by first | exact absurd (by decide) c11 | exact absurd c11 (by decide) | omega)
        refine zw_aload0 hB dX5_greensAreTheRow_24 ?_
        refine zw_getfR hB dX5_greensAreTheRow_25 zf_X5_32 rfl rfl ?_
        refine zw_getfR hB dX5_greensAreTheRow_28 zf_X5_272 rfl rfl ?_
        refine zw_iload1 hB dX5_greensAreTheRow_31 ?_
        refine zw_callV1P (M' := mX1_greenOf) hB dX5_greensAreTheRow_32 zl_X5_89 zg_X1_greenOf (zRc.of zld28.1 rfl rfl) (s_X1_greenOf zld28 (by omega)) ?_
        rw [zu]
        refine zw_aload0 hB dX5_greensAreTheRow_35 ?_
        refine zw_getfR hB dX5_greensAreTheRow_36 zf_X5_36 rfl rfl ?_
        refine zw_iload2 hB dX5_greensAreTheRow_39 ?_
        refine zw_ialdV (x := l.getD (0) 0) hB dX5_greensAreTheRow_40 rfl (by omega) (by decide) (by rw [ou 48 (by omega)]; exact hl48 _ c7) ?_
        refine zw_icmp_eq (tgt := 46) hB dX5_greensAreTheRow_41 (by decide) (fun c41 => ?_) (fun c41 => ?_)
        · refine zw_iinc2 hB dX5_greensAreTheRow_46 (by first | exact zinc _ | rfl) (by first | rfl | assumption) ?_
          refine zw_goto (tgt := 2) hB dX5_greensAreTheRow_49 (by decide) ?_
          refine ih c7 _ (fun q hq => ?_) zu ou
          obtain rfl : q = 0 := by omega
          exact c41
        · refine zw_iconst (x := nI 0) hB dX5_greensAreTheRow_44 (by decide) ?_
          refine zw_zret hB hR dX5_greensAreTheRow_45 rfl (by decide) ?_
          exact ⟨by rw [zb_f (zgr_f c7 c41)]; rfl, ou⟩
    · obtain ⟨i, rfl⟩ : ∃ j, i = j + 1 := ⟨i - 1, by omega⟩
      have zu : zrow υ 28 = zYs (zrow σ 28) i := zu
      refine zw_iload2 hB dX5_greensAreTheRow_2 ?_
      refine zw_aload0 hB dX5_greensAreTheRow_3 ?_
      refine zw_getfV (x := nI l.length) hB dX5_greensAreTheRow_4 zf_X5_252 rfl rfl ((congrFun (ou 0 (by omega)) 7).trans hl7) ?_
      refine zw_icmp_geN (tgt := 52) hB dX5_greensAreTheRow_7 (by decide) (by omega) (by omega) (fun c7 => ?_) (fun c7 => ?_)
      · refine zw_iconst (x := nI 1) hB dX5_greensAreTheRow_52 (by decide) ?_
        refine zw_zret hB hR dX5_greensAreTheRow_53 rfl (by decide) ?_
        exact ⟨by rw [zb_t (zgr_t (fun q hq => hh q (by omega)))]; rfl, ou⟩
      · refine zw_iload2 hB dX5_greensAreTheRow_10 ?_
        refine zw_if_le (tgt := 24) hB dX5_greensAreTheRow_11 (by decide) (fun c11 => by first | exact absurd c11 (fun z => absurd ((nI_leI (a := i + 1) (b := 0) (by omega) (by omega)).mp z) (by omega)) | exact absurd (fun z => absurd ((nI_leI (a := i + 1) (b := 0) (by omega) (by omega)).mp z) (by omega)) c11 | omega) (fun c11 => ?_)
        refine zw_aload0 hB dX5_greensAreTheRow_14 ?_
        refine zw_getfR hB dX5_greensAreTheRow_15 zf_X5_32 rfl rfl ?_
        refine zw_getfR hB dX5_greensAreTheRow_18 zf_X5_272 rfl rfl ?_
        refine zw_callV0 (M' := mX1_passYear) hB dX5_greensAreTheRow_21 zl_X5_275 zg_X1_passYear (zRc.of zld28.1 rfl rfl) (s_X1_passYear zld28 gu) (fun v21 σ21 hq21 => ?_)
        obtain ⟨rfl, y1, y2, y3, y4, y5⟩ := hq21
        have zv : zrow σ21 28 = zYs (zrow σ 28) (i + 1) := by rw [y1, zu]; rfl
        have gv : zGd (zrow σ21 28) F P := by rw [zv]; exact zGd_Ys hg _
        refine zw_aload0 hB dX5_greensAreTheRow_24 ?_
        refine zw_getfR hB dX5_greensAreTheRow_25 zf_X5_32 rfl rfl ?_
        refine zw_getfR hB dX5_greensAreTheRow_28 zf_X5_272 rfl rfl ?_
        refine zw_iload1 hB dX5_greensAreTheRow_31 ?_
        refine zw_callV1P (M' := mX1_greenOf) hB dX5_greensAreTheRow_32 zl_X5_89 zg_X1_greenOf (zRc.of zld28.1 rfl rfl) (s_X1_greenOf zld28 (by omega)) ?_
        rw [zv]
        refine zw_aload0 hB dX5_greensAreTheRow_35 ?_
        refine zw_getfR hB dX5_greensAreTheRow_36 zf_X5_36 rfl rfl ?_
        refine zw_iload2 hB dX5_greensAreTheRow_39 ?_
        refine zw_ialdV (x := l.getD (i + 1) 0) hB dX5_greensAreTheRow_40 rfl (by omega) (by decide) (by rw [y5 48 (by omega)]; rw [ou 48 (by omega)]; exact hl48 _ c7) ?_
        refine zw_icmp_eq (tgt := 46) hB dX5_greensAreTheRow_41 (by decide) (fun c41 => ?_) (fun c41 => ?_)
        · refine zw_iinc2 hB dX5_greensAreTheRow_46 (by first | exact zinc _ | rfl) (by first | rfl | assumption) ?_
          refine zw_goto (tgt := 2) hB dX5_greensAreTheRow_49 (by decide) ?_
          refine ih c7 _ (fun q hq => ?_) zv (ou.tr y5)
          by_cases e : q = i + 1
          · subst e; exact c41
          · exact hh q (by omega)
        · refine zw_iconst (x := nI 0) hB dX5_greensAreTheRow_44 (by decide) ?_
          refine zw_zret hB hR dX5_greensAreTheRow_45 rfl (by decide) ?_
          exact ⟨by rw [zb_f (zgr_f c7 c41)]; rfl, ou.tr y5⟩
  refine zw_iconst (x := nI 0) hB dX5_greensAreTheRow_0 (by decide) ?_
  refine zw_istore2 hB dX5_greensAreTheRow_1 (by first | rfl | assumption) ?_
  exact hl 0 (by omega) σ (fun q hq => absurd hq (by omega)) rfl zOut.rf
theorem s_X5_whoSat {n : Nat} {σ : zSt} {S : zS} (hS : zOk S) (h : zCW S σ) (f0 p0 w0 : Int32) : zSem (n + 5) mX5_whoSat [.ref 0, .int f0, .int p0, .int w0] σ (zCQ (q_whoSat S f0 p0 w0) σ) := by
  obtain ⟨⟨⟨F, P, hg0⟩, y0, hy0, ey0⟩, hkp, hlt, hrw⟩ := id hS
  have hnF := hg0.nF
  have hnP := hg0.nP
  have hr0 := h.1
  have hg : zGd (zrow σ 1) F P := by rw [hr0]; exact hg0
  have hF6 := hg.F6
  have hP6 := hg.P6
  have hF : σ 1 0 = nI F := hg.r0
  have hP : σ 1 1 = nI P := hg.r1
  unfold q_whoSat
  rw [hnF, hnP]
  refine zSem.of (by decide +kernel) (Nat.le_of_ble_eq_true rfl) (fun X hB hR => ?_)
  show zW X 0 [some (.ref 0), some (.int f0), some (.int p0), some (.int w0), none, none, none, none, none, none] [] σ
  have hl0 : ∀ j i, p0 = nI j → f0 = nI i → w0 = nI 0 → j < P → i < F → ∀ g, g ≤ 6 → ∀ (υ : zSt) (v : Int32) (a4 a8 a9 : Option Value), zOut 28 σ υ → v = zset (fun k => zgr (upd (zrow σ 1) (23 + 4 * j) (nI k)) i S.2.2.2.1) g → zfo (znb (zIn (nI i) F ∧ zIn (nI j) P)) (zou (nI 0) (nI 1)) (nI 0) = 0 → zW X 72 [some (.ref 0), some (.int (nI i)), some (.int (nI j)), some (.int (nI 0)), a4, some (.int (nI 6)), some (.int v), some (.int (nI g)), a8, a9] [] υ := by
    rintro j i rfl rfl rfl hj hi
    refine zfor 6 (fun g hgN ih => ?_)
    intro υ v a4 a8 a9 ou hv e0
    have r1 : zrow υ 1 = zrow σ 1 := zrow_congr (fun c _ _ => ou c (by omega))
    have gu : zGd (zrow υ 1) F P := by rw [r1]; exact hg
    refine zw_iload7 hB dX5_whoSat_72 ?_
    refine zw_iload5 hB dX5_whoSat_74 ?_
    refine zw_icmp_geN (tgt := 162) hB dX5_whoSat_76 (by decide) (by omega) (by omega) (fun c76 => ?_) (fun c76 => ?_)
    · refine zw_iload6 hB dX5_whoSat_162 ?_
      refine zw_iret hB hR dX5_whoSat_164 rfl ?_
      obtain rfl : g = 6 := by omega
      refine zCQ.ok h e0 ?_ (fun c hc => ou c (by omega))
      rw [nI_clamp (by omega), nI_clamp (by omega), zWs, if_pos rfl, ← hr0, hv]
    · refine zw_iload3 hB dX5_whoSat_79 ?_
      refine zw_if_ne (tgt := 88) hB dX5_whoSat_80 (by decide) (fun c80 => by first | exact absurd c80 (by decide) | exact absurd (by decide) c80 | omega) (fun c80 => ?_)
      refine zw_iload7 hB dX5_whoSat_83 ?_
      refine zw_goto (tgt := 97) hB dX5_whoSat_85 (by decide) ?_
      refine zw_istore8 hB dX5_whoSat_97 (by first | rfl | assumption) ?_
      refine zw_iload3 hB dX5_whoSat_99 ?_
      refine zw_if_ne (tgt := 115) hB dX5_whoSat_100 (by decide) (fun c100 => by first | exact absurd c100 (by decide) | exact absurd (by decide) c100 | omega) (fun c100 => ?_)
      refine zw_aload0 hB dX5_whoSat_103 ?_
      refine zw_getfR hB dX5_whoSat_104 zf_X5_10 rfl rfl ?_
      refine zw_getfR hB dX5_whoSat_107 zf_X5_104 zld1.1 rfl ?_
      refine zw_iload2 hB dX5_whoSat_110 ?_
      refine zw_ialdV (x := (zrow σ 1) (24 + 4 * j)) hB dX5_whoSat_111 zld1.2.2.2.2.1 (by omega) (by decide) (by rw [← r1]; exact zrow_fg (by omega)) ?_
      refine zw_goto (tgt := 117) hB dX5_whoSat_112 (by decide) ?_
      refine zw_istore9 hB dX5_whoSat_117 (by first | rfl | assumption) ?_
      refine zw_aload0 hB dX5_whoSat_119 ?_
      refine zw_getfR hB dX5_whoSat_120 zf_X5_32 rfl rfl ?_
      refine zw_aload0 hB dX5_whoSat_123 ?_
      refine zw_getfR hB dX5_whoSat_124 zf_X5_10 rfl rfl ?_
      refine zw_iload2 hB dX5_whoSat_127 ?_
      refine zw_iload8 hB dX5_whoSat_128 ?_
      refine zw_iload9 hB dX5_whoSat_130 ?_
      refine zw_callV4 (M' := mX3_suppose) hB dX5_whoSat_132 zl_X5_245 zg_X3_suppose (zRc.of rfl rfl rfl) (s_X3_suppose gu hj _ _) (fun v132 σ132 hq132 => ?_)
      obtain ⟨rfl, x1, x2⟩ := hq132
      have z132 : zrow σ132 28 = (upd (zrow σ 1) (23 + 4 * j) (nI g)) := by
        rw [x1, r1]
        funext k
        by_cases q1 : k = 24 + 4 * j
        · subst q1
          rw [zupd_s]
          rw [zupd_o (by omega)]
        · rw [zupd_o q1]
      
      have g132 : zGd (zrow σ132 28) F P := by rw [z132]; exact zGd_kf (w := 0) hg hj (by omega)
      have o132 := ou.tr x2
      refine zw_iload6 hB dX5_whoSat_135 ?_
      refine zw_aload0 hB dX5_whoSat_137 ?_
      refine zw_iload1 hB dX5_whoSat_138 ?_
      refine zw_callV1 (M' := mX5_greensAreTheRow) hB dX5_whoSat_139 zl_X5_249 zg_X5_greensAreTheRow (zRc.of rfl rfl rfl) (s_X5_greensAreTheRow (l := S.2.2.2.1) g132 hi ((congrFun (o132 0 (by omega)) 7).trans h.2.2.2.1.1) hrw.1 (by rw [o132 48 (by omega)]; exact h.2.2.2.1.2)) (fun v139 σ139 hq139 => ?_)
      obtain ⟨rfl, y1⟩ := hq139
      rw [z132]
      refine zw_if_eqB (tgt := 152) hB dX5_whoSat_142 (by decide) (fun c142 => ?_) (fun c142 => ?_)
      · refine zw_iconst (x := nI 0) hB dX5_whoSat_152 (by decide) ?_
        refine zw_ior hB dX5_whoSat_153 ?_
        refine zw_istore6 hB dX5_whoSat_154 (by first | rfl | assumption) ?_
        refine zw_iinc7 hB dX5_whoSat_156 (by first | exact zinc _ | rfl) (by first | rfl | assumption) ?_
        refine zw_goto (tgt := 72) hB dX5_whoSat_159 (by decide) ?_
        refine ih c76 _ _ _ _ _ (o132.tr y1) ?_ e0
        rw [hv, zset, if_neg c142]
      · refine zw_iconst (x := nI 1) hB dX5_whoSat_145 (by decide) ?_
        refine zw_iload7 hB dX5_whoSat_146 ?_
        refine zw_ishl hB dX5_whoSat_148 ?_
        refine zw_goto (tgt := 153) hB dX5_whoSat_149 (by decide) ?_
        refine zw_ior hB dX5_whoSat_153 ?_
        refine zw_istore6 hB dX5_whoSat_154 (by first | rfl | assumption) ?_
        refine zw_iinc7 hB dX5_whoSat_156 (by first | exact zinc _ | rfl) (by first | rfl | assumption) ?_
        refine zw_goto (tgt := 72) hB dX5_whoSat_159 (by decide) ?_
        refine ih c76 _ _ _ _ _ (o132.tr y1) ?_ e0
        rw [hv, zset, if_pos c142]
  have hl1 : ∀ j i, p0 = nI j → f0 = nI i → w0 = nI 1 → j < P → i < F → ∀ g, g ≤ 10 → ∀ (υ : zSt) (v : Int32) (a4 a8 a9 : Option Value), zOut 28 σ υ → v = zset (fun k => zgr (upd (zrow σ 1) (24 + 4 * j) (nI k)) i S.2.2.2.1) g → zfo (znb (zIn (nI i) F ∧ zIn (nI j) P)) (zou (nI 1) (nI 1)) (nI 0) = 0 → zW X 72 [some (.ref 0), some (.int (nI i)), some (.int (nI j)), some (.int (nI 1)), a4, some (.int (nI 10)), some (.int v), some (.int (nI g)), a8, a9] [] υ := by
    rintro j i rfl rfl rfl hj hi
    refine zfor 10 (fun g hgN ih => ?_)
    intro υ v a4 a8 a9 ou hv e0
    have r1 : zrow υ 1 = zrow σ 1 := zrow_congr (fun c _ _ => ou c (by omega))
    have gu : zGd (zrow υ 1) F P := by rw [r1]; exact hg
    refine zw_iload7 hB dX5_whoSat_72 ?_
    refine zw_iload5 hB dX5_whoSat_74 ?_
    refine zw_icmp_geN (tgt := 162) hB dX5_whoSat_76 (by decide) (by omega) (by omega) (fun c76 => ?_) (fun c76 => ?_)
    · refine zw_iload6 hB dX5_whoSat_162 ?_
      refine zw_iret hB hR dX5_whoSat_164 rfl ?_
      obtain rfl : g = 10 := by omega
      refine zCQ.ok h e0 ?_ (fun c hc => ou c (by omega))
      rw [nI_clamp (by omega), nI_clamp (by omega), zWs, if_neg (by decide), ← hr0, hv]
    · refine zw_iload3 hB dX5_whoSat_79 ?_
      refine zw_if_ne (tgt := 88) hB dX5_whoSat_80 (by decide) (fun c80 => ?_) (fun c80 => by first | exact absurd (by decide) c80 | exact absurd c80 (by decide) | omega)
      refine zw_aload0 hB dX5_whoSat_88 ?_
      refine zw_getfR hB dX5_whoSat_89 zf_X5_10 rfl rfl ?_
      refine zw_getfR hB dX5_whoSat_92 zf_X5_101 zld1.1 rfl ?_
      refine zw_iload2 hB dX5_whoSat_95 ?_
      refine zw_ialdV (x := (zrow σ 1) (23 + 4 * j)) hB dX5_whoSat_96 zld1.2.2.2.1 (by omega) (by decide) (by rw [← r1]; exact zrow_kd (by omega)) ?_
      refine zw_istore8 hB dX5_whoSat_97 (by first | rfl | assumption) ?_
      refine zw_iload3 hB dX5_whoSat_99 ?_
      refine zw_if_ne (tgt := 115) hB dX5_whoSat_100 (by decide) (fun c100 => ?_) (fun c100 => by first | exact absurd (by decide) c100 | exact absurd c100 (by decide) | omega)
      refine zw_iload7 hB dX5_whoSat_115 ?_
      refine zw_istore9 hB dX5_whoSat_117 (by first | rfl | assumption) ?_
      refine zw_aload0 hB dX5_whoSat_119 ?_
      refine zw_getfR hB dX5_whoSat_120 zf_X5_32 rfl rfl ?_
      refine zw_aload0 hB dX5_whoSat_123 ?_
      refine zw_getfR hB dX5_whoSat_124 zf_X5_10 rfl rfl ?_
      refine zw_iload2 hB dX5_whoSat_127 ?_
      refine zw_iload8 hB dX5_whoSat_128 ?_
      refine zw_iload9 hB dX5_whoSat_130 ?_
      refine zw_callV4 (M' := mX3_suppose) hB dX5_whoSat_132 zl_X5_245 zg_X3_suppose (zRc.of rfl rfl rfl) (s_X3_suppose gu hj _ _) (fun v132 σ132 hq132 => ?_)
      obtain ⟨rfl, x1, x2⟩ := hq132
      have z132 : zrow σ132 28 = (upd (zrow σ 1) (24 + 4 * j) (nI g)) := by
        rw [x1, r1]
        funext k
        by_cases q1 : k = 24 + 4 * j
        · subst q1
          rw [zupd_s]
          rw [zupd_s]
        · rw [zupd_o q1]
          rw [zupd_o q1]
          by_cases q2 : k = 23 + 4 * j
          · subst q2; rw [zupd_s]
          · rw [zupd_o q2]
      have g132 : zGd (zrow σ132 28) F P := by rw [z132]; have g1 := zGd_kf (w := 1) (k := g) hg hj (by omega); rw [show 23 + 4 * j + 1 = 24 + 4 * j by omega] at g1; exact g1
      have o132 := ou.tr x2
      refine zw_iload6 hB dX5_whoSat_135 ?_
      refine zw_aload0 hB dX5_whoSat_137 ?_
      refine zw_iload1 hB dX5_whoSat_138 ?_
      refine zw_callV1 (M' := mX5_greensAreTheRow) hB dX5_whoSat_139 zl_X5_249 zg_X5_greensAreTheRow (zRc.of rfl rfl rfl) (s_X5_greensAreTheRow (l := S.2.2.2.1) g132 hi ((congrFun (o132 0 (by omega)) 7).trans h.2.2.2.1.1) hrw.1 (by rw [o132 48 (by omega)]; exact h.2.2.2.1.2)) (fun v139 σ139 hq139 => ?_)
      obtain ⟨rfl, y1⟩ := hq139
      rw [z132]
      refine zw_if_eqB (tgt := 152) hB dX5_whoSat_142 (by decide) (fun c142 => ?_) (fun c142 => ?_)
      · refine zw_iconst (x := nI 0) hB dX5_whoSat_152 (by decide) ?_
        refine zw_ior hB dX5_whoSat_153 ?_
        refine zw_istore6 hB dX5_whoSat_154 (by first | rfl | assumption) ?_
        refine zw_iinc7 hB dX5_whoSat_156 (by first | exact zinc _ | rfl) (by first | rfl | assumption) ?_
        refine zw_goto (tgt := 72) hB dX5_whoSat_159 (by decide) ?_
        refine ih c76 _ _ _ _ _ (o132.tr y1) ?_ e0
        rw [hv, zset, if_neg c142]
      · refine zw_iconst (x := nI 1) hB dX5_whoSat_145 (by decide) ?_
        refine zw_iload7 hB dX5_whoSat_146 ?_
        refine zw_ishl hB dX5_whoSat_148 ?_
        refine zw_goto (tgt := 153) hB dX5_whoSat_149 (by decide) ?_
        refine zw_ior hB dX5_whoSat_153 ?_
        refine zw_istore6 hB dX5_whoSat_154 (by first | rfl | assumption) ?_
        refine zw_iinc7 hB dX5_whoSat_156 (by first | exact zinc _ | rfl) (by first | rfl | assumption) ?_
        refine zw_goto (tgt := 72) hB dX5_whoSat_159 (by decide) ?_
        refine ih c76 _ _ _ _ _ (o132.tr y1) ?_ e0
        rw [hv, zset, if_pos c142]
  refine zw_aload0 hB dX5_whoSat_0 ?_
  refine zw_getfR hB dX5_whoSat_1 zf_X5_10 rfl rfl ?_
  refine zw_iload1 hB dX5_whoSat_4 ?_
  refine zw_callV1P (M' := mX1_hasFarm) hB dX5_whoSat_5 zl_X5_78 zg_X1_hasFarm (zRc.of zld1.1 rfl rfl) (s_hasFarm zld1 hF _) ?_
  refine zw_if_eqB (tgt := 26) hB dX5_whoSat_8 (by decide) (fun c8 => ?_) (fun c8 => ?_)
  · refine zw_iconst (x := nI 0) hB dX5_whoSat_26 (by decide) ?_
    refine zw_eqI (y := zb (zIn f0 F ∧ zIn p0 P)) (zb_f (fun z => c8 z.1)).symm ?_
    refine zw_callS1P (M' := mX5_nobodyUnless) hB dX5_whoSat_27 zl_X5_82 zg_X5_nobodyUnless (s_X5_nobodyUnless) ?_
    refine zw_iload3 hB dX5_whoSat_30 ?_
    refine zw_iconst (x := nI 1) hB dX5_whoSat_31 (by decide) ?_
    refine zw_callS2P (M' := mX5_otherUnless) hB dX5_whoSat_32 zl_X5_85 zg_X5_otherUnless (s_X5_otherUnless _ _) ?_
    refine zw_iconst (x := nI 0) hB dX5_whoSat_35 (by decide) ?_
    refine zw_callS3P (M' := mX5_firstOf) hB dX5_whoSat_36 zl_X5_55 zg_X5_firstOf (s_X5_firstOf _ _ _) ?_
    refine zw_istore4 hB dX5_whoSat_39 (by first | rfl | assumption) ?_
    refine zw_iload4 hB dX5_whoSat_41 ?_
    refine zw_if_eq (tgt := 53) hB dX5_whoSat_43 (by decide) (fun c43 => ?_) (fun c43 => ?_)
    · obtain ⟨e1, e2, -⟩ := zfo_0 c43
      obtain ⟨z1, z2⟩ := znb_0 e1
      obtain ⟨i, hi, rfl⟩ := zIn_j (by omega) z1
      obtain ⟨j, hj, rfl⟩ := zIn_j (by omega) z2
      obtain ⟨k9, hk9, rfl⟩ := zou_0 (by omega) e2
      have k2 : k9 = 0 ∨ k9 = 1 := by omega
      rcases k2 with rfl | rfl
      · refine zw_iload3 hB dX5_whoSat_53 ?_
        refine zw_if_ne (tgt := 62) hB dX5_whoSat_54 (by decide) (fun c54 => by first | exact absurd c54 (by decide) | exact absurd (by decide) c54 | omega) (fun c54 => ?_)
        refine zw_bipush (x := nI 6) hB dX5_whoSat_57 (by decide) ?_
        refine zw_goto (tgt := 64) hB dX5_whoSat_59 (by decide) ?_
        refine zw_istore5 hB dX5_whoSat_64 (by first | rfl | assumption) ?_
        refine zw_iconst (x := nI 0) hB dX5_whoSat_66 (by decide) ?_
        refine zw_istore6 hB dX5_whoSat_67 (by first | rfl | assumption) ?_
        refine zw_iconst (x := nI 0) hB dX5_whoSat_69 (by decide) ?_
        refine zw_istore7 hB dX5_whoSat_70 (by first | rfl | assumption) ?_
        exact hl0 j i rfl rfl rfl hj hi 0 (by omega) _ _ _ _ _ zOut.rf rfl c43
      · refine zw_iload3 hB dX5_whoSat_53 ?_
        refine zw_if_ne (tgt := 62) hB dX5_whoSat_54 (by decide) (fun c54 => ?_) (fun c54 => by first | exact absurd (by decide) c54 | exact absurd c54 (by decide) | omega)
        refine zw_bipush (x := nI 10) hB dX5_whoSat_62 (by decide) ?_
        refine zw_istore5 hB dX5_whoSat_64 (by first | rfl | assumption) ?_
        refine zw_iconst (x := nI 0) hB dX5_whoSat_66 (by decide) ?_
        refine zw_istore6 hB dX5_whoSat_67 (by first | rfl | assumption) ?_
        refine zw_iconst (x := nI 0) hB dX5_whoSat_69 (by decide) ?_
        refine zw_istore7 hB dX5_whoSat_70 (by first | rfl | assumption) ?_
        exact hl1 j i rfl rfl rfl hj hi 0 (by omega) _ _ _ _ _ zOut.rf rfl c43
    · obtain ⟨k, hk, hc⟩ := (zcd_fo (zcd_nb (c := zIn f0 F ∧ zIn p0 P)) (zcd_ou (w := w0) (m := nI 1)) zcd_0).resolve_left c43
      refine zw_aload0 hB dX5_whoSat_46 ?_
      refine zw_iload4 hB dX5_whoSat_47 ?_
      refine zw_callV1 (M' := mX5_refuse) hB dX5_whoSat_49 zl_X5_58 zg_X5_refuse (zRc.of rfl rfl rfl) (s_X5_refuse _ hc hk) (fun v49 σ49 hq49 => ?_)
      obtain ⟨rfl, rfl⟩ := hq49
      refine zw_iret hB hR dX5_whoSat_52 rfl ?_
      exact zCQ.no h c43 hk hc
  · refine zw_aload0 hB dX5_whoSat_11 ?_
    refine zw_getfR hB dX5_whoSat_12 zf_X5_10 rfl rfl ?_
    refine zw_iload2 hB dX5_whoSat_15 ?_
    refine zw_callV1P (M' := mX1_hasFarmer) hB dX5_whoSat_16 zl_X5_98 zg_X1_hasFarmer (zRc.of zld1.1 rfl rfl) (s_hasFarmer zld1 hP _) ?_
    refine zw_if_eqB (tgt := 26) hB dX5_whoSat_19 (by decide) (fun c19 => ?_) (fun c19 => ?_)
    · refine zw_iconst (x := nI 0) hB dX5_whoSat_26 (by decide) ?_
      refine zw_eqI (y := zb (zIn f0 F ∧ zIn p0 P)) (zb_f (fun z => c19 z.2)).symm ?_
      refine zw_callS1P (M' := mX5_nobodyUnless) hB dX5_whoSat_27 zl_X5_82 zg_X5_nobodyUnless (s_X5_nobodyUnless) ?_
      refine zw_iload3 hB dX5_whoSat_30 ?_
      refine zw_iconst (x := nI 1) hB dX5_whoSat_31 (by decide) ?_
      refine zw_callS2P (M' := mX5_otherUnless) hB dX5_whoSat_32 zl_X5_85 zg_X5_otherUnless (s_X5_otherUnless _ _) ?_
      refine zw_iconst (x := nI 0) hB dX5_whoSat_35 (by decide) ?_
      refine zw_callS3P (M' := mX5_firstOf) hB dX5_whoSat_36 zl_X5_55 zg_X5_firstOf (s_X5_firstOf _ _ _) ?_
      refine zw_istore4 hB dX5_whoSat_39 (by first | rfl | assumption) ?_
      refine zw_iload4 hB dX5_whoSat_41 ?_
      refine zw_if_eq (tgt := 53) hB dX5_whoSat_43 (by decide) (fun c43 => ?_) (fun c43 => ?_)
      · obtain ⟨e1, e2, -⟩ := zfo_0 c43
        obtain ⟨z1, z2⟩ := znb_0 e1
        obtain ⟨i, hi, rfl⟩ := zIn_j (by omega) z1
        obtain ⟨j, hj, rfl⟩ := zIn_j (by omega) z2
        obtain ⟨k9, hk9, rfl⟩ := zou_0 (by omega) e2
        have k2 : k9 = 0 ∨ k9 = 1 := by omega
        rcases k2 with rfl | rfl
        · refine zw_iload3 hB dX5_whoSat_53 ?_
          refine zw_if_ne (tgt := 62) hB dX5_whoSat_54 (by decide) (fun c54 => by first | exact absurd c54 (by decide) | exact absurd (by decide) c54 | omega) (fun c54 => ?_)
          refine zw_bipush (x := nI 6) hB dX5_whoSat_57 (by decide) ?_
          refine zw_goto (tgt := 64) hB dX5_whoSat_59 (by decide) ?_
          refine zw_istore5 hB dX5_whoSat_64 (by first | rfl | assumption) ?_
          refine zw_iconst (x := nI 0) hB dX5_whoSat_66 (by decide) ?_
          refine zw_istore6 hB dX5_whoSat_67 (by first | rfl | assumption) ?_
          refine zw_iconst (x := nI 0) hB dX5_whoSat_69 (by decide) ?_
          refine zw_istore7 hB dX5_whoSat_70 (by first | rfl | assumption) ?_
          exact hl0 j i rfl rfl rfl hj hi 0 (by omega) _ _ _ _ _ zOut.rf rfl c43
        · refine zw_iload3 hB dX5_whoSat_53 ?_
          refine zw_if_ne (tgt := 62) hB dX5_whoSat_54 (by decide) (fun c54 => ?_) (fun c54 => by first | exact absurd (by decide) c54 | exact absurd c54 (by decide) | omega)
          refine zw_bipush (x := nI 10) hB dX5_whoSat_62 (by decide) ?_
          refine zw_istore5 hB dX5_whoSat_64 (by first | rfl | assumption) ?_
          refine zw_iconst (x := nI 0) hB dX5_whoSat_66 (by decide) ?_
          refine zw_istore6 hB dX5_whoSat_67 (by first | rfl | assumption) ?_
          refine zw_iconst (x := nI 0) hB dX5_whoSat_69 (by decide) ?_
          refine zw_istore7 hB dX5_whoSat_70 (by first | rfl | assumption) ?_
          exact hl1 j i rfl rfl rfl hj hi 0 (by omega) _ _ _ _ _ zOut.rf rfl c43
      · obtain ⟨k, hk, hc⟩ := (zcd_fo (zcd_nb (c := zIn f0 F ∧ zIn p0 P)) (zcd_ou (w := w0) (m := nI 1)) zcd_0).resolve_left c43
        refine zw_aload0 hB dX5_whoSat_46 ?_
        refine zw_iload4 hB dX5_whoSat_47 ?_
        refine zw_callV1 (M' := mX5_refuse) hB dX5_whoSat_49 zl_X5_58 zg_X5_refuse (zRc.of rfl rfl rfl) (s_X5_refuse _ hc hk) (fun v49 σ49 hq49 => ?_)
        obtain ⟨rfl, rfl⟩ := hq49
        refine zw_iret hB hR dX5_whoSat_52 rfl ?_
        exact zCQ.no h c43 hk hc
    · refine zw_iconst (x := nI 1) hB dX5_whoSat_22 (by decide) ?_
      refine zw_goto (tgt := 27) hB dX5_whoSat_23 (by decide) ?_
      refine zw_eqI (y := zb (zIn f0 F ∧ zIn p0 P)) (zb_t ⟨c8, c19⟩).symm ?_
      refine zw_callS1P (M' := mX5_nobodyUnless) hB dX5_whoSat_27 zl_X5_82 zg_X5_nobodyUnless (s_X5_nobodyUnless) ?_
      refine zw_iload3 hB dX5_whoSat_30 ?_
      refine zw_iconst (x := nI 1) hB dX5_whoSat_31 (by decide) ?_
      refine zw_callS2P (M' := mX5_otherUnless) hB dX5_whoSat_32 zl_X5_85 zg_X5_otherUnless (s_X5_otherUnless _ _) ?_
      refine zw_iconst (x := nI 0) hB dX5_whoSat_35 (by decide) ?_
      refine zw_callS3P (M' := mX5_firstOf) hB dX5_whoSat_36 zl_X5_55 zg_X5_firstOf (s_X5_firstOf _ _ _) ?_
      refine zw_istore4 hB dX5_whoSat_39 (by first | rfl | assumption) ?_
      refine zw_iload4 hB dX5_whoSat_41 ?_
      refine zw_if_eq (tgt := 53) hB dX5_whoSat_43 (by decide) (fun c43 => ?_) (fun c43 => ?_)
      · obtain ⟨e1, e2, -⟩ := zfo_0 c43
        obtain ⟨z1, z2⟩ := znb_0 e1
        obtain ⟨i, hi, rfl⟩ := zIn_j (by omega) z1
        obtain ⟨j, hj, rfl⟩ := zIn_j (by omega) z2
        obtain ⟨k9, hk9, rfl⟩ := zou_0 (by omega) e2
        have k2 : k9 = 0 ∨ k9 = 1 := by omega
        rcases k2 with rfl | rfl
        · refine zw_iload3 hB dX5_whoSat_53 ?_
          refine zw_if_ne (tgt := 62) hB dX5_whoSat_54 (by decide) (fun c54 => by first | exact absurd c54 (by decide) | exact absurd (by decide) c54 | omega) (fun c54 => ?_)
          refine zw_bipush (x := nI 6) hB dX5_whoSat_57 (by decide) ?_
          refine zw_goto (tgt := 64) hB dX5_whoSat_59 (by decide) ?_
          refine zw_istore5 hB dX5_whoSat_64 (by first | rfl | assumption) ?_
          refine zw_iconst (x := nI 0) hB dX5_whoSat_66 (by decide) ?_
          refine zw_istore6 hB dX5_whoSat_67 (by first | rfl | assumption) ?_
          refine zw_iconst (x := nI 0) hB dX5_whoSat_69 (by decide) ?_
          refine zw_istore7 hB dX5_whoSat_70 (by first | rfl | assumption) ?_
          exact hl0 j i rfl rfl rfl hj hi 0 (by omega) _ _ _ _ _ zOut.rf rfl c43
        · refine zw_iload3 hB dX5_whoSat_53 ?_
          refine zw_if_ne (tgt := 62) hB dX5_whoSat_54 (by decide) (fun c54 => ?_) (fun c54 => by first | exact absurd (by decide) c54 | exact absurd c54 (by decide) | omega)
          refine zw_bipush (x := nI 10) hB dX5_whoSat_62 (by decide) ?_
          refine zw_istore5 hB dX5_whoSat_64 (by first | rfl | assumption) ?_
          refine zw_iconst (x := nI 0) hB dX5_whoSat_66 (by decide) ?_
          refine zw_istore6 hB dX5_whoSat_67 (by first | rfl | assumption) ?_
          refine zw_iconst (x := nI 0) hB dX5_whoSat_69 (by decide) ?_
          refine zw_istore7 hB dX5_whoSat_70 (by first | rfl | assumption) ?_
          exact hl1 j i rfl rfl rfl hj hi 0 (by omega) _ _ _ _ _ zOut.rf rfl c43
      · obtain ⟨k, hk, hc⟩ := (zcd_fo (zcd_nb (c := zIn f0 F ∧ zIn p0 P)) (zcd_ou (w := w0) (m := nI 1)) zcd_0).resolve_left c43
        refine zw_aload0 hB dX5_whoSat_46 ?_
        refine zw_iload4 hB dX5_whoSat_47 ?_
        refine zw_callV1 (M' := mX5_refuse) hB dX5_whoSat_49 zl_X5_58 zg_X5_refuse (zRc.of rfl rfl rfl) (s_X5_refuse _ hc hk) (fun v49 σ49 hq49 => ?_)
        obtain ⟨rfl, rfl⟩ := hq49
        refine zw_iret hB hR dX5_whoSat_52 rfl ?_
        exact zCQ.no h c43 hk hc
theorem s_X5_firstWrongCrop {n : Nat} {σ : zSt} {F P : Nat} {l : List Int32} (hg : zGd (zrow σ 1) F P) (hl7 : σ 0 7 = nI l.length) (h16 : l.length ≤ 16) (hl48 : zArr (σ 48) l) : zSem (n + 6) mX5_firstWrongCrop [.ref 0] σ (fun v τ => v = some (.int (zopt (zJu (zrow σ 1) P l))) ∧ zOut 28 σ τ) := by
  have hF6 := hg.F6
  have hP6 := hg.P6
  have hP : σ 1 1 = nI P := hg.r1
  refine zSem.of (by decide +kernel) (Nat.le_of_ble_eq_true rfl) (fun X hB hR => ?_)
  show zW X 0 [some (.ref 0), none, none] [] σ
  have hl : ∀ i, i ≤ l.length → ∀ υ : zSt, zJu (zrow σ 1) P l = zfst (fun i => decide (¬ zAl (zYs (zrow σ 1) i) P = l.getD i 0)) i (l.length - i) → zrow υ 28 = zYs (zrow σ 1) i → zOut 28 σ υ → zW X 15 [some (.ref 0), some (.ref 28), some (.int (nI i))] [] υ := by
    refine zfor l.length (fun i hi ih => ?_)
    intro υ hq zu ou
    have gu : zGd (zrow υ 28) F P := by rw [zu]; exact zGd_Ys hg _
    refine zw_iload2 hB dX5_firstWrongCrop_15 ?_
    refine zw_aload0 hB dX5_firstWrongCrop_16 ?_
    refine zw_getfV (x := nI l.length) hB dX5_firstWrongCrop_17 zf_X5_252 rfl rfl ((congrFun (ou 0 (by omega)) 7).trans hl7) ?_
    refine zw_icmp_geN (tgt := 48) hB dX5_firstWrongCrop_20 (by decide) (by omega) (by omega) (fun c20 => ?_) (fun c20 => ?_)
    · refine zw_bipush (x := -9) hB dX5_firstWrongCrop_48 (by decide) ?_
      refine zw_iret hB hR dX5_firstWrongCrop_50 rfl ?_
      have e9 : zJu (zrow σ 1) P l = none := by rw [hq]; exact zfst_e (by omega)
      exact ⟨by rw [e9]; rfl, ou⟩
    · refine zw_aload1 hB dX5_firstWrongCrop_23 ?_
      refine zw_callV0 (M' := mX1_passYear) hB dX5_firstWrongCrop_24 zl_X5_275 zg_X1_passYear (zRc.of zld28.1 rfl rfl) (s_X1_passYear zld28 gu) (fun v24 σ24 hq24 => ?_)
      obtain ⟨rfl, y1, y2, y3, y4, y5⟩ := hq24
      refine zw_aload1 hB dX5_firstWrongCrop_27 ?_
      refine zw_getfV (x := zAl (zYs (zrow σ 1) i) P) hB dX5_firstWrongCrop_28 zf_X5_278 zld28.1 rfl (by rw [← zu]; exact y2) ?_
      refine zw_aload0 hB dX5_firstWrongCrop_31 ?_
      refine zw_getfR hB dX5_firstWrongCrop_32 zf_X5_36 rfl rfl ?_
      refine zw_iload2 hB dX5_firstWrongCrop_35 ?_
      refine zw_ialdV (x := l.getD i 0) hB dX5_firstWrongCrop_36 rfl (by omega) (by decide) (by rw [y5 48 (by omega), ou 48 (by omega)]; exact hl48 i c20) ?_
      refine zw_icmp_eq (tgt := 42) hB dX5_firstWrongCrop_37 (by decide) (fun c37 => ?_) (fun c37 => ?_)
      · refine zw_iinc2 hB dX5_firstWrongCrop_42 (by first | exact zinc _ | rfl) (by first | rfl | assumption) ?_
        refine zw_goto (tgt := 15) hB dX5_firstWrongCrop_45 (by decide) ?_
        exact ih c20 _ (by rw [hq, zfst_s c20, if_neg (by rw [decide_eq_true_eq]; exact fun z => z c37)]) (by rw [y1, zu]; rfl) (ou.tr y5)
      · refine zw_iload2 hB dX5_firstWrongCrop_40 ?_
        refine zw_iret hB hR dX5_firstWrongCrop_41 rfl ?_
        have e9 : zJu (zrow σ 1) P l = some i := by rw [hq, zfst_s c20, if_pos (decide_eq_true c37)]
        exact ⟨by rw [e9]; rfl, ou.tr y5⟩
  refine zw_aload0 hB dX5_firstWrongCrop_0 ?_
  refine zw_getfR hB dX5_firstWrongCrop_1 zf_X5_32 rfl rfl ?_
  refine zw_aload0 hB dX5_firstWrongCrop_4 ?_
  refine zw_getfR hB dX5_firstWrongCrop_5 zf_X5_10 rfl rfl ?_
  refine zw_iconst (x := nI 0) hB dX5_firstWrongCrop_8 (by decide) ?_
  refine zw_callV2 (M' := mX3_after) hB dX5_firstWrongCrop_9 zl_X5_144 zg_X3_after (zRc.of rfl rfl rfl) (s_X3_after hg (m := 0) (by omega)) (fun v9 σ9 hq9 => ?_)
  obtain ⟨rfl, x1, x2⟩ := hq9
  refine zw_astore1 hB dX5_firstWrongCrop_12 (by first | rfl | assumption) ?_
  refine zw_iconst (x := nI 0) hB dX5_firstWrongCrop_13 (by decide) ?_
  refine zw_istore2 hB dX5_firstWrongCrop_14 (by first | rfl | assumption) ?_
  exact hl 0 (by omega) σ9 rfl x1 x2
theorem s_X5_judge {n : Nat} {σ : zSt} {S : zS} (hS : zOk S) (h : zCW S σ)  : zSem (n + 7) mX5_judge [.ref 0] σ (zCQ (q_judge S ) σ) := by
  obtain ⟨⟨⟨F, P, hg0⟩, y0, hy0, ey0⟩, hkp, hlt, hrw⟩ := id hS
  have hnF := hg0.nF
  have hnP := hg0.nP
  have hr0 := h.1
  have hg : zGd (zrow σ 1) F P := by rw [hr0]; exact hg0
  have hF6 := hg.F6
  have hP6 := hg.P6
  have hF : σ 1 0 = nI F := hg.r0
  have hP : σ 1 1 = nI P := hg.r1
  unfold q_judge
  try rw [hnF]
  try rw [hnP]
  refine zSem.of (by decide +kernel) (Nat.le_of_ble_eq_true rfl) (fun X hB hR => ?_)
  show zW X 0 [some (.ref 0), none] [] σ
  refine zw_aload0 hB dX5_judge_0 ?_
  refine zw_callV0 (M' := mX5_firstWrongCrop) hB dX5_judge_1 zl_X5_255 zg_X5_firstWrongCrop (zRc.of rfl rfl rfl) (s_X5_firstWrongCrop (l := S.2.2.2.1) hg h.2.2.2.1.1 hrw.1 h.2.2.2.1.2) (fun v1 σ1 hq1 => ?_)
  obtain ⟨rfl, x1⟩ := hq1
  refine zw_istore1 hB dX5_judge_4 (by first | rfl | assumption) ?_
  refine zw_aload0 hB dX5_judge_5 ?_
  refine zw_iconst (x := nI 0) hB dX5_judge_6 (by decide) ?_
  refine zw_putfI hB dX5_judge_7 zfw_X5_252 rfl rfl ?_
  refine zw_iload1 hB dX5_judge_10 ?_
  refine zw_iret hB hR dX5_judge_11 rfl ?_
  refine ⟨by rw [← hr0], ?_, fun c hc => by rw [zC_n (by omega)]; exact x1 c (by omega)⟩
  have h1 : zCW S σ1 := h.keep (fun c hc => x1 c (by omega))
  refine h1.rowL (fun k hk => ?_) (fun c h0 _ => zC_n h0) ?_ zArr.nil
  · rw [zC_s]; exact zupd_o hk
  · rw [zC_s]; exact zupd_s
theorem zcnt {w : Int32} : (nI 11 ≤ w ∧ w ≤ nI 16) ↔ ∃ i, 11 ≤ i ∧ i ≤ 16 ∧ w = nI i := by
  constructor
  · rintro ⟨h1, h2⟩
    rcases zix w 17 (by omega) with (q | ⟨-, q⟩) | ⟨i, hi, rfl⟩
    · exact absurd (Int32.lt_of_lt_of_le q (show (0 : Int32) ≤ nI 11 by decide)) (Int32.not_lt.mpr h1)
    · exact absurd (Int32.lt_of_le_of_lt h2 (show nI 16 < nI 17 by decide)) (Int32.not_lt.mpr q)
    · exact ⟨i, (nI_leI (by omega) (by omega)).mp h1, by omega, rfl⟩
  · rintro ⟨i, h1, h2, rfl⟩
    exact ⟨(nI_leI (by omega) (by omega)).mpr h1, (nI_leI (by omega) (by omega)).mpr h2⟩
theorem zcnt_c {w : Int32} (h : ¬ w ≤ nI 10) (g : ¬ nI 7 ≤ w - nI 10) : nI 11 ≤ w ∧ w ≤ nI 16 := by
  rcases zix w (2 ^ 31 - 1) (by omega) with (q | ⟨-, q⟩) | ⟨i, hi, rfl⟩
  · exact absurd (Int32.le_of_lt (Int32.lt_of_lt_of_le q (show (0 : Int32) ≤ nI 10 by decide))) h
  · have e : w = nI (2 ^ 31 - 1) := by
      apply Int32.toInt_inj.mp
      have := Int32.le_iff_toInt_le.mp q
      rw [nI_toInt (by omega)] at this
      rw [nI_toInt (by omega)]
      have := Int32.toInt_lt w
      omega
    rw [e] at g
    exact absurd (show nI 7 ≤ nI (2 ^ 31 - 1) - nI 10 by decide) g
  · have h1 : 10 < i := by
      apply Nat.lt_of_not_le
      intro z
      exact h ((nI_leI (by omega) (by omega)).mpr z)
    rw [pk_sub (by omega)] at g
    have h2 : i - 10 < 7 := by
      apply Nat.lt_of_not_le
      intro z
      exact g ((nI_leI (by omega) (by omega)).mpr z)
    exact zcnt.mpr ⟨i, by omega, by omega, rfl⟩
theorem zcnt_d {i : Nat} (h1 : 11 ≤ i) (h2 : i ≤ 16) : ¬ nI i ≤ nI 10 ∧ ¬ nI 7 ≤ nI i - nI 10 := by
  refine ⟨fun z => absurd ((nI_leI (by omega) (by omega)).mp z) (by omega), fun z => ?_⟩
  rw [pk_sub (by omega)] at z
  exact absurd ((nI_leI (by omega) (by omega)).mp z) (by omega)

theorem s_X5_count {n : Nat} {σ : zSt} {S : zS} (hS : zOk S) (h : zCW S σ) (w : Int32) : zSem (n + 3) mX5_count [.ref 0, .int w] σ (zCQ (q_count S w) σ) := by
  obtain ⟨⟨⟨F, P, hg0⟩, y0, hy0, ey0⟩, hkp, hlt, hrw⟩ := id hS
  have hnF := hg0.nF
  have hnP := hg0.nP
  have hr0 := h.1
  have hg : zGd (zrow σ 1) F P := by rw [hr0]; exact hg0
  have hF6 := hg.F6
  have hP6 := hg.P6
  have hF : σ 1 0 = nI F := hg.r0
  have hP : σ 1 1 = nI P := hg.r1
  unfold q_count
  try rw [hnF]
  try rw [hnP]
  refine zSem.of (by decide +kernel) (Nat.le_of_ble_eq_true rfl) (fun X hB hR => ?_)
  show zW X 0 [some (.ref 0), some (.int w)] [] σ
  refine zw_iload1 hB dX5_count_0 ?_
  refine zw_bipush (x := nI 10) hB dX5_count_1 (by decide) ?_
  refine zw_icmp_le (tgt := 28) hB dX5_count_3 (by decide) (fun c3 => ?_) (fun c3 => ?_)
  · refine zw_iload1 hB dX5_count_28 ?_
    have hno : ¬ (nI 11 ≤ w ∧ w ≤ nI 16) := fun z => by obtain ⟨i, h1, h2, rfl⟩ := zcnt.mp z; exact (zcnt_d h1 h2).1 c3
    rcases zix w 8 (by omega) with q | ⟨q, hq, rfl⟩
    · have hout : w.toInt < 0 ∨ 7 < w.toInt := by
        rcases q with q | ⟨-, q⟩
        · exact Or.inl (Int32.lt_iff_toInt_lt.mp q)
        · have := Int32.le_iff_toInt_le.mp q
          rw [nI_toInt (by omega)] at this
          exact Or.inr (by omega)
      have hn : ∀ i, i < 8 → ¬ w = nI i := by
        rintro i hi rfl
        rcases q with q | ⟨-, q⟩
        · exact nI_pos (by omega) q
        · exact absurd ((nI_leI (by omega) (by omega)).mp q) (by omega)
      refine zw_tabOut (tgt := 137) hB dX5_count_29 hout (by decide) ?_
      refine zw_bipush (x := -9) hB dX5_count_137 (by decide) ?_
      refine zw_iret hB hR dX5_count_139 rfl ?_
      refine zCQ.ok5 h ?_ (fun _ _ => rfl)
      unfold a_count
      rw [if_neg (fun z => hno z), if_neg (hn 0 (by omega)), if_neg (hn 1 (by omega)), if_neg (hn 2 (by omega)), if_neg (hn 3 (by omega)), if_neg (hn 4 (by omega)), if_neg (hn 5 (by omega)), if_neg (hn 6 (by omega)), if_neg (hn 7 (by omega))]
    · have q8 : q = 0 ∨ q = 1 ∨ q = 2 ∨ q = 3 ∨ q = 4 ∨ q = 5 ∨ q = 6 ∨ q = 7 := by omega
      rcases q8 with rfl | rfl | rfl | rfl | rfl | rfl | rfl | rfl
      · refine zw_tabIn (off := 47) (tgt := 76) hB dX5_count_29 (by decide) (by decide) (by decide) (by decide) ?_
        refine zw_aload0 hB dX5_count_76 ?_
        refine zw_getfR hB dX5_count_77 zf_X5_10 rfl rfl ?_
        refine zw_getfV (x := S.1 0) hB dX5_count_80 zf_X5_237 zld1.1 rfl (by rw [← hr0]; rfl) ?_
        refine zw_iret hB hR dX5_count_83 rfl ?_
        refine zCQ.ok5 h ?_ (fun _ _ => rfl)
        unfold a_count
        rw [if_neg (fun z => hno z), if_pos rfl]
      · refine zw_tabIn (off := 55) (tgt := 84) hB dX5_count_29 (by decide) (by decide) (by decide) (by decide) ?_
        refine zw_aload0 hB dX5_count_84 ?_
        refine zw_getfR hB dX5_count_85 zf_X5_10 rfl rfl ?_
        refine zw_getfV (x := S.1 1) hB dX5_count_88 zf_X5_269 zld1.1 rfl (by rw [← hr0]; rfl) ?_
        refine zw_iret hB hR dX5_count_91 rfl ?_
        refine zCQ.ok5 h ?_ (fun _ _ => rfl)
        unfold a_count
        rw [if_neg (fun z => hno z), if_neg (by decide), if_pos rfl]
      · refine zw_tabIn (off := 63) (tgt := 92) hB dX5_count_29 (by decide) (by decide) (by decide) (by decide) ?_
        refine zw_aload0 hB dX5_count_92 ?_
        refine zw_getfR hB dX5_count_93 zf_X5_10 rfl rfl ?_
        refine zw_getfV (x := S.1 4) hB dX5_count_96 zf_X5_266 zld1.1 rfl (by rw [← hr0]; rfl) ?_
        refine zw_iret hB hR dX5_count_99 rfl ?_
        refine zCQ.ok5 h ?_ (fun _ _ => rfl)
        unfold a_count
        rw [if_neg (fun z => hno z), if_neg (by decide), if_neg (by decide), if_pos rfl]
      · refine zw_tabIn (off := 71) (tgt := 100) hB dX5_count_29 (by decide) (by decide) (by decide) (by decide) ?_
        refine zw_aload0 hB dX5_count_100 ?_
        refine zw_getfR hB dX5_count_101 zf_X5_10 rfl rfl ?_
        refine zw_getfV (x := S.1 2) hB dX5_count_104 zf_X5_132 zld1.1 rfl (by rw [← hr0]; rfl) ?_
        refine zw_iret hB hR dX5_count_107 rfl ?_
        refine zCQ.ok5 h ?_ (fun _ _ => rfl)
        unfold a_count
        rw [if_neg (fun z => hno z), if_neg (by decide), if_neg (by decide), if_neg (by decide), if_pos rfl]
      · refine zw_tabIn (off := 79) (tgt := 108) hB dX5_count_29 (by decide) (by decide) (by decide) (by decide) ?_
        refine zw_aload0 hB dX5_count_108 ?_
        refine zw_getfR hB dX5_count_109 zf_X5_10 rfl rfl ?_
        refine zw_getfV (x := S.1 3) hB dX5_count_112 zf_X5_141 zld1.1 rfl (by rw [← hr0]; rfl) ?_
        refine zw_iret hB hR dX5_count_115 rfl ?_
        refine zCQ.ok5 h ?_ (fun _ _ => rfl)
        unfold a_count
        rw [if_neg (fun z => hno z), if_neg (by decide), if_neg (by decide), if_neg (by decide), if_neg (by decide), if_pos rfl]
      · refine zw_tabIn (off := 87) (tgt := 116) hB dX5_count_29 (by decide) (by decide) (by decide) (by decide) ?_
        refine zw_aload0 hB dX5_count_116 ?_
        refine zw_getfR hB dX5_count_117 zf_X5_10 rfl rfl ?_
        refine zw_callV0P (M' := mX1_greenOfAll) hB dX5_count_120 zl_X5_234 zg_X1_greenOfAll (zRc.of zld1.1 rfl rfl) (s_X1_greenOfAll zld1 hg) ?_
        refine zw_iret hB hR dX5_count_123 rfl ?_
        refine zCQ.ok5 h ?_ (fun _ _ => rfl)
        unfold a_count
        rw [if_neg (fun z => hno z), if_neg (by decide), if_neg (by decide), if_neg (by decide), if_neg (by decide), if_neg (by decide), if_pos rfl, hnF, ← hr0]
      · refine zw_tabIn (off := 95) (tgt := 124) hB dX5_count_29 (by decide) (by decide) (by decide) (by decide) ?_
        refine zw_aload0 hB dX5_count_124 ?_
        refine zw_getfV (x := nI S.2.2.2.1.length) hB dX5_count_125 zf_X5_252 rfl rfl (h.2.2.2.1.1) ?_
        refine zw_iret hB hR dX5_count_128 rfl ?_
        refine zCQ.ok5 h ?_ (fun _ _ => rfl)
        unfold a_count
        rw [if_neg (fun z => hno z), if_neg (by decide), if_neg (by decide), if_neg (by decide), if_neg (by decide), if_neg (by decide), if_neg (by decide), if_pos rfl]
      · refine zw_tabIn (off := 100) (tgt := 129) hB dX5_count_29 (by decide) (by decide) (by decide) (by decide) ?_
        refine zw_aload0 hB dX5_count_129 ?_
        refine zw_getfR hB dX5_count_130 zf_X5_25 rfl rfl ?_
        refine zw_getfV (x := nI S.2.2.1.length) hB dX5_count_133 zf_X5_66 rfl rfl (h.2.2.1.1) ?_
        refine zw_iret hB hR dX5_count_136 rfl ?_
        refine zCQ.ok5 h ?_ (fun _ _ => rfl)
        unfold a_count
        rw [if_neg (fun z => hno z), if_neg (by decide), if_neg (by decide), if_neg (by decide), if_neg (by decide), if_neg (by decide), if_neg (by decide), if_neg (by decide), if_pos rfl]
  · refine zw_iload1 hB dX5_count_6 ?_
    refine zw_bipush (x := nI 10) hB dX5_count_7 (by decide) ?_
    refine zw_isub hB dX5_count_9 ?_
    refine zw_aload0 hB dX5_count_10 ?_
    refine zw_getfR hB dX5_count_11 zf_X5_40 rfl rfl ?_
    refine zw_alen hB dX5_count_14 rfl ?_
    refine zw_icmp_ge (tgt := 28) hB dX5_count_15 (by decide) (fun c15 => ?_) (fun c15 => ?_)
    · refine zw_iload1 hB dX5_count_28 ?_
      have hno : ¬ (nI 11 ≤ w ∧ w ≤ nI 16) := fun z => by obtain ⟨i, h1, h2, rfl⟩ := zcnt.mp z; exact (zcnt_d h1 h2).2 c15
      rcases zix w 8 (by omega) with q | ⟨q, hq, rfl⟩
      · have hout : w.toInt < 0 ∨ 7 < w.toInt := by
          rcases q with q | ⟨-, q⟩
          · exact Or.inl (Int32.lt_iff_toInt_lt.mp q)
          · have := Int32.le_iff_toInt_le.mp q
            rw [nI_toInt (by omega)] at this
            exact Or.inr (by omega)
        have hn : ∀ i, i < 8 → ¬ w = nI i := by
          rintro i hi rfl
          rcases q with q | ⟨-, q⟩
          · exact nI_pos (by omega) q
          · exact absurd ((nI_leI (by omega) (by omega)).mp q) (by omega)
        refine zw_tabOut (tgt := 137) hB dX5_count_29 hout (by decide) ?_
        refine zw_bipush (x := -9) hB dX5_count_137 (by decide) ?_
        refine zw_iret hB hR dX5_count_139 rfl ?_
        refine zCQ.ok5 h ?_ (fun _ _ => rfl)
        unfold a_count
        rw [if_neg (fun z => hno z), if_neg (hn 0 (by omega)), if_neg (hn 1 (by omega)), if_neg (hn 2 (by omega)), if_neg (hn 3 (by omega)), if_neg (hn 4 (by omega)), if_neg (hn 5 (by omega)), if_neg (hn 6 (by omega)), if_neg (hn 7 (by omega))]
      · have q8 : q = 0 ∨ q = 1 ∨ q = 2 ∨ q = 3 ∨ q = 4 ∨ q = 5 ∨ q = 6 ∨ q = 7 := by omega
        rcases q8 with rfl | rfl | rfl | rfl | rfl | rfl | rfl | rfl
        · refine zw_tabIn (off := 47) (tgt := 76) hB dX5_count_29 (by decide) (by decide) (by decide) (by decide) ?_
          refine zw_aload0 hB dX5_count_76 ?_
          refine zw_getfR hB dX5_count_77 zf_X5_10 rfl rfl ?_
          refine zw_getfV (x := S.1 0) hB dX5_count_80 zf_X5_237 zld1.1 rfl (by rw [← hr0]; rfl) ?_
          refine zw_iret hB hR dX5_count_83 rfl ?_
          refine zCQ.ok5 h ?_ (fun _ _ => rfl)
          unfold a_count
          rw [if_neg (fun z => hno z), if_pos rfl]
        · refine zw_tabIn (off := 55) (tgt := 84) hB dX5_count_29 (by decide) (by decide) (by decide) (by decide) ?_
          refine zw_aload0 hB dX5_count_84 ?_
          refine zw_getfR hB dX5_count_85 zf_X5_10 rfl rfl ?_
          refine zw_getfV (x := S.1 1) hB dX5_count_88 zf_X5_269 zld1.1 rfl (by rw [← hr0]; rfl) ?_
          refine zw_iret hB hR dX5_count_91 rfl ?_
          refine zCQ.ok5 h ?_ (fun _ _ => rfl)
          unfold a_count
          rw [if_neg (fun z => hno z), if_neg (by decide), if_pos rfl]
        · refine zw_tabIn (off := 63) (tgt := 92) hB dX5_count_29 (by decide) (by decide) (by decide) (by decide) ?_
          refine zw_aload0 hB dX5_count_92 ?_
          refine zw_getfR hB dX5_count_93 zf_X5_10 rfl rfl ?_
          refine zw_getfV (x := S.1 4) hB dX5_count_96 zf_X5_266 zld1.1 rfl (by rw [← hr0]; rfl) ?_
          refine zw_iret hB hR dX5_count_99 rfl ?_
          refine zCQ.ok5 h ?_ (fun _ _ => rfl)
          unfold a_count
          rw [if_neg (fun z => hno z), if_neg (by decide), if_neg (by decide), if_pos rfl]
        · refine zw_tabIn (off := 71) (tgt := 100) hB dX5_count_29 (by decide) (by decide) (by decide) (by decide) ?_
          refine zw_aload0 hB dX5_count_100 ?_
          refine zw_getfR hB dX5_count_101 zf_X5_10 rfl rfl ?_
          refine zw_getfV (x := S.1 2) hB dX5_count_104 zf_X5_132 zld1.1 rfl (by rw [← hr0]; rfl) ?_
          refine zw_iret hB hR dX5_count_107 rfl ?_
          refine zCQ.ok5 h ?_ (fun _ _ => rfl)
          unfold a_count
          rw [if_neg (fun z => hno z), if_neg (by decide), if_neg (by decide), if_neg (by decide), if_pos rfl]
        · refine zw_tabIn (off := 79) (tgt := 108) hB dX5_count_29 (by decide) (by decide) (by decide) (by decide) ?_
          refine zw_aload0 hB dX5_count_108 ?_
          refine zw_getfR hB dX5_count_109 zf_X5_10 rfl rfl ?_
          refine zw_getfV (x := S.1 3) hB dX5_count_112 zf_X5_141 zld1.1 rfl (by rw [← hr0]; rfl) ?_
          refine zw_iret hB hR dX5_count_115 rfl ?_
          refine zCQ.ok5 h ?_ (fun _ _ => rfl)
          unfold a_count
          rw [if_neg (fun z => hno z), if_neg (by decide), if_neg (by decide), if_neg (by decide), if_neg (by decide), if_pos rfl]
        · refine zw_tabIn (off := 87) (tgt := 116) hB dX5_count_29 (by decide) (by decide) (by decide) (by decide) ?_
          refine zw_aload0 hB dX5_count_116 ?_
          refine zw_getfR hB dX5_count_117 zf_X5_10 rfl rfl ?_
          refine zw_callV0P (M' := mX1_greenOfAll) hB dX5_count_120 zl_X5_234 zg_X1_greenOfAll (zRc.of zld1.1 rfl rfl) (s_X1_greenOfAll zld1 hg) ?_
          refine zw_iret hB hR dX5_count_123 rfl ?_
          refine zCQ.ok5 h ?_ (fun _ _ => rfl)
          unfold a_count
          rw [if_neg (fun z => hno z), if_neg (by decide), if_neg (by decide), if_neg (by decide), if_neg (by decide), if_neg (by decide), if_pos rfl, hnF, ← hr0]
        · refine zw_tabIn (off := 95) (tgt := 124) hB dX5_count_29 (by decide) (by decide) (by decide) (by decide) ?_
          refine zw_aload0 hB dX5_count_124 ?_
          refine zw_getfV (x := nI S.2.2.2.1.length) hB dX5_count_125 zf_X5_252 rfl rfl (h.2.2.2.1.1) ?_
          refine zw_iret hB hR dX5_count_128 rfl ?_
          refine zCQ.ok5 h ?_ (fun _ _ => rfl)
          unfold a_count
          rw [if_neg (fun z => hno z), if_neg (by decide), if_neg (by decide), if_neg (by decide), if_neg (by decide), if_neg (by decide), if_neg (by decide), if_pos rfl]
        · refine zw_tabIn (off := 100) (tgt := 129) hB dX5_count_29 (by decide) (by decide) (by decide) (by decide) ?_
          refine zw_aload0 hB dX5_count_129 ?_
          refine zw_getfR hB dX5_count_130 zf_X5_25 rfl rfl ?_
          refine zw_getfV (x := nI S.2.2.1.length) hB dX5_count_133 zf_X5_66 rfl rfl (h.2.2.1.1) ?_
          refine zw_iret hB hR dX5_count_136 rfl ?_
          refine zCQ.ok5 h ?_ (fun _ _ => rfl)
          unfold a_count
          rw [if_neg (fun z => hno z), if_neg (by decide), if_neg (by decide), if_neg (by decide), if_neg (by decide), if_neg (by decide), if_neg (by decide), if_neg (by decide), if_pos rfl]
    · obtain ⟨i, hi1, hi2, rfl⟩ := zcnt.mp (zcnt_c c3 c15)
      refine zw_aload0 hB dX5_count_18 ?_
      refine zw_getfR hB dX5_count_19 zf_X5_40 rfl rfl ?_
      refine zw_iload1 hB dX5_count_22 ?_
      refine zw_bipush (x := nI 10) hB dX5_count_23 (by decide) ?_
      refine zw_isubN hB dX5_count_25 (by omega) ?_
      refine zw_ialdV (x := S.2.2.2.2 (i - 10)) hB dX5_count_26 rfl (by omega) (by decide) (h.2.2.2.2 (i - 10) (by omega)) ?_
      refine zw_iret hB hR dX5_count_27 rfl ?_
      refine zCQ.ok5 h ?_ (fun _ _ => rfl)
      unfold a_count
      rw [if_pos (zcnt.mpr ⟨i, hi1, hi2, rfl⟩), nI_clamp (by omega)]
