/-! LETTERS: the reference does a statement; its land -/
def zDm (x : Option zRw) (σ : zSt) : Option Value → zSt → Prop := fun v τ => v = some (.int (zb (x.isSome = true))) ∧ (∀ r, x = some r → zro τ 51 = r) ∧ ∀ c, c ≠ 51 → c ≠ 55 → c ≠ 56 → τ c = σ c
theorem zDm_t {c : Prop} [Decidable c] {r : zRw} {σ τ : zSt} (h : c) (hr : zro τ 51 = r) (ho : ∀ c, c ≠ 51 → c ≠ 55 → c ≠ 56 → τ c = σ c) : zDm (if c then some r else none) σ (some (.int (nI 1))) τ := by
  rw [if_pos h]
  exact ⟨by rw [zb_t (show (some r).isSome = true from rfl)]; rfl, fun r' e => (by cases e; exact hr), ho⟩
theorem zDm_f {c : Prop} [Decidable c] {r : zRw} {σ τ : zSt} (h : ¬ c) (ho : ∀ c, c ≠ 51 → c ≠ 55 → c ≠ 56 → τ c = σ c) : zDm (if c then some r else none) σ (some (.int (nI 0))) τ := by
  rw [if_neg h]
  exact ⟨by rw [zb_f (show ¬ (none : Option zRw).isSome = true by decide)]; rfl, fun r' e => (by cases e), ho⟩
theorem zAf_of {r r' : zRw} {F P x y z : Nat} (h : zGd r F P) (hF6 : F < 6) (h0 : r' 0 = nI (F + 1)) (h1 : r' (5 + 3 * F) = nI x) (h2 : r' (5 + 3 * F + 1) = nI y) (h3 : r' (5 + 3 * F + 2) = nI z) (o : ∀ k, k ≠ 0 → ¬ (5 + 3 * F ≤ k ∧ k < 8 + 3 * F) → r' k = r k) : r' = zAf r (nI x) (nI y) (nI z) := by
  funext k
  unfold zAf
  rw [h.nF]
  by_cases c0 : k = 0
  · rw [if_pos c0, c0, h0]
  · rw [if_neg c0]
    by_cases c1 : k = 5 + 3 * F
    · rw [if_pos c1, c1, h1]
    · rw [if_neg c1]
      by_cases c2 : k = 5 + 3 * F + 1
      · rw [if_pos c2, c2, h2]
      · rw [if_neg c2]
        by_cases c3 : k = 5 + 3 * F + 2
        · rw [if_pos c3, c3, h3]
        · rw [if_neg c3]
          exact o k c0 (by omega)
def zpn (g : Nat → Nat) (L : Nat) : Nat → Nat → Nat → Nat
  | 0, _, m => m
  | n + 1, b, m => if znx g b < L then zpn g L n (znx g b) (m + 1) else m + 1
theorem zpf_q {g : Nat → Nat} {L n b q : Nat} (h : zsx g L b = some q) : zpf g L (n + 1) b = some q := by
  show (match zsx g L b with | some q => some q | none => if znx g b < L then zpf g L n (znx g b) else none) = _
  rw [h]
theorem zpf_c {g : Nat → Nat} {L n b : Nat} (h : zsx g L b = none) (c : znx g b < L) : zpf g L (n + 1) b = zpf g L n (znx g b) := by
  show (match zsx g L b with | some q => some q | none => if znx g b < L then zpf g L n (znx g b) else none) = _
  rw [h]
  exact if_pos c
theorem zpf_e {g : Nat → Nat} {L n b : Nat} (h : zsx g L b = none) (c : ¬ znx g b < L) : zpf g L (n + 1) b = none := by
  show (match zsx g L b with | some q => some q | none => if znx g b < L then zpf g L n (znx g b) else none) = _
  rw [h]
  exact if_neg c
theorem zpn_c {g : Nat → Nat} {L n b m : Nat} (c : znx g b < L) : zpn g L (n + 1) b m = zpn g L n (znx g b) (m + 1) := if_pos c
theorem zpn_e {g : Nat → Nat} {L n b m : Nat} (c : ¬ znx g b < L) : zpn g L (n + 1) b m = m + 1 := if_neg c
theorem zxr_pn {g : Nat → Nat} {L : Nat} : ∀ n b m r m' r', zpf g L n b = none → zxr g L n b m r = (none, m', r') → m' = zpn g L n b m := by
  intro n
  induction n with
  | zero => intro b m r m' r' h _; cases h
  | succ n ih =>
    intro b m r m' r' h hx
    have h2 := zpf_s h
    cases e : zdo g b r with
    | none => rw [zxr_n e] at hx; cases hx
    | some q =>
      by_cases c : znx g b < L
      · rw [zxr_s e c] at hx
        rw [zpn_c c]
        exact ih _ _ _ _ _ (h2.2 c) hx
      · rw [zxr_e e c] at hx
        rw [zpn_e c]
        cases hx; rfl
theorem zm3 : ∀ q, q < 106 → ¬ (-1000 - nI q : Int32) = -9 ∧ ¬ (-2000 - nI q : Int32) = -9 := by decide +kernel

theorem s_X6_isDone_f {n : Nat} {σ : zSt} {F P : Nat} (hg : zGd (zro σ 51) F P) {a b e : Nat} (ha : a < 100) (hb : b < 100) (he : e < 100) (hn0 : σ 60 0 = nI a) (hn1 : σ 60 1 = nI b) (hn2 : σ 60 2 = nI e) : zSem (n + 5) mX6_isDone [.ref 50, .int (nI 102)] σ (zDm (if zNF (zro σ 51) < 6 ∧ a ≤ 30 ∧ b ≤ 30 ∧ e ≤ 30 then some (zAf (zro σ 51) (nI a) (nI b) (nI e)) else none) σ) := by
  have hF6 := hg.F6
  have hP6 := hg.P6
  have hF : σ 51 0 = nI F := (zro_k (by omega)).symm.trans hg.r0
  have hP : σ 51 1 = nI P := (zro_k (by omega)).symm.trans hg.r1
  have hnF := hg.nF
  have hnP := hg.nP
  refine zSem.of (by decide +kernel) (Nat.le_of_ble_eq_true rfl) (fun X hB hR => ?_)
  show zW X 0 [some (.ref 50), some (.int (nI 102)), none, none, none, none, none] [] σ
  rw [hnF] at hR
  have hl : (F < 6 ∧ a ≤ 30 ∧ b ≤ 30 ∧ e ≤ 30) → ∀ i, i ≤ 3 → ∀ υ : zSt, (∀ k, k < i → zro υ 51 (5 + 3 * F + k) = nI (if k = 0 then a else if k = 1 then b else e)) → (∀ k, ¬ (5 + 3 * F ≤ k ∧ k < 8 + 3 * F) → zro υ 51 k = zro σ 51 k) → (∀ c, c ≠ 51 → υ c = σ c) → zW X 151 [some (.ref 50), some (.int (nI 102)), some (.int (nI a)), some (.int (nI b)), some (.int (nI e)), some (.int (nI 0)), some (.int (nI i))] [] υ := by
    intro hcc
    refine zfor 3 (fun i hi ih => ?_)
    intro υ h1 h2 ou
    have kF : υ 51 0 = nI F := (zro_k (by omega)).symm.trans ((h2 0 (by omega)).trans hg.r0)
    refine zw_iload6 hB dX6_isDone_151 ?_
    refine zw_iconst (x := nI 3) hB dX6_isDone_153 (by decide) ?_
    refine zw_icmp_geN (tgt := 186) hB dX6_isDone_154 (by decide) (by omega) (by omega) (fun c154 => ?_) (fun c154 => ?_)
    · refine zw_aload0 hB dX6_isDone_186 ?_
      refine zw_getfR hB dX6_isDone_187 zf_X6_9 rfl rfl ?_
      refine zw_iconst (x := nI 0) hB dX6_isDone_190 (by decide) ?_
      refine zw_dup2 hB dX6_isDone_191 rfl rfl ?_
      refine zw_ialdV (x := nI F) hB dX6_isDone_192 rfl (by omega) (by decide) (kF) ?_
      refine zw_iconst (x := nI 1) hB dX6_isDone_193 (by decide) ?_
      refine zw_iadd hB dX6_isDone_194 ?_
      refine zw_iastN hB dX6_isDone_195 rfl (by omega) (by decide) ?_
      refine zw_iconst (x := nI 1) hB dX6_isDone_196 (by decide) ?_
      refine zw_zret hB hR dX6_isDone_197 rfl rfl ?_
      refine zDm_t hcc ?_ (fun c h1 h2 h3 => by rw [zC_n h1]; exact ou c h1)
      rw [zro_set (by omega)]
      refine zAf_of hg hcc.1 (by rw [zupd_s, nI_add]) ?_ ?_ ?_ (fun k q1 q2 => by rw [zupd_o q1]; exact h2 k q2)
      · rw [zupd_o (by omega)]; exact h1 0 (by omega)
      · rw [zupd_o (by omega)]; exact h1 1 (by omega)
      · rw [zupd_o (by omega)]; exact h1 2 (by omega)
    · refine zw_aload0 hB dX6_isDone_157 ?_
      refine zw_getfR hB dX6_isDone_158 zf_X6_9 rfl rfl ?_
      refine zw_aload0 hB dX6_isDone_161 ?_
      refine zw_getfR hB dX6_isDone_162 zf_X6_9 rfl rfl ?_
      refine zw_iconst (x := nI 0) hB dX6_isDone_165 (by decide) ?_
      refine zw_ialdV (x := nI F) hB dX6_isDone_166 rfl (by omega) (by decide) (kF) ?_
      refine zw_iload6 hB dX6_isDone_167 ?_
      refine zw_callS2P (M' := mX6_heart) hB dX6_isDone_169 zl_X6_60 zg_X6_heart (s_X6_heart) ?_
      refine zw_aload0 hB dX6_isDone_172 ?_
      refine zw_getfR hB dX6_isDone_173 zf_X6_37 rfl rfl ?_
      refine zw_iload6 hB dX6_isDone_176 ?_
      refine zw_ialdV (x := nI (if i = 0 then a else if i = 1 then b else e)) hB dX6_isDone_178 rfl (by omega) (by decide) (by
        rw [ou 60 (by omega)]
        have i3 : i = 0 ∨ i = 1 ∨ i = 2 := by omega
        rcases i3 with rfl | rfl | rfl
        · exact hn0
        · exact hn1
        · exact hn2) ?_
      refine zw_iastN hB dX6_isDone_179 rfl (by omega) (by decide) ?_
      refine zw_iinc6 hB dX6_isDone_180 (by first | exact zinc _ | rfl) (by first | rfl | assumption) ?_
      refine zw_goto (tgt := 151) hB dX6_isDone_183 (by decide) ?_
      refine ih c154 _ (fun k hk => ?_) (fun k hk => ?_) (fun c hc => by rw [zC_n hc]; exact ou c hc)
      · rw [zro_set (by omega)]
        by_cases e9 : k = i
        · rw [e9, zupd_s]
        · rw [zupd_o (by omega)]; exact h1 k (by omega)
      · rw [zro_set (by omega), zupd_o (by omega)]; exact h2 k hk
  refine zw_aload0 hB dX6_isDone_0 ?_
  refine zw_getfR hB dX6_isDone_1 zf_X6_37 rfl rfl ?_
  refine zw_iconst (x := nI 0) hB dX6_isDone_4 (by decide) ?_
  refine zw_ialdV (x := nI a) hB dX6_isDone_5 rfl (by omega) (by decide) (hn0) ?_
  refine zw_istore2 hB dX6_isDone_6 (by first | rfl | assumption) ?_
  refine zw_aload0 hB dX6_isDone_7 ?_
  refine zw_getfR hB dX6_isDone_8 zf_X6_37 rfl rfl ?_
  refine zw_iconst (x := nI 1) hB dX6_isDone_11 (by decide) ?_
  refine zw_ialdV (x := nI b) hB dX6_isDone_12 rfl (by omega) (by decide) (hn1) ?_
  refine zw_istore3 hB dX6_isDone_13 (by first | rfl | assumption) ?_
  refine zw_aload0 hB dX6_isDone_14 ?_
  refine zw_getfR hB dX6_isDone_15 zf_X6_37 rfl rfl ?_
  refine zw_iconst (x := nI 2) hB dX6_isDone_18 (by decide) ?_
  refine zw_ialdV (x := nI e) hB dX6_isDone_19 rfl (by omega) (by decide) (hn2) ?_
  refine zw_istore4 hB dX6_isDone_20 (by first | rfl | assumption) ?_
  refine zw_iconst (x := nI 0) hB dX6_isDone_22 (by decide) ?_
  refine zw_istore5 hB dX6_isDone_23 (by first | rfl | assumption) ?_
  refine zw_iload1 hB dX6_isDone_25 ?_
  refine zw_tabG (off := 90) (tgt := 116) hB dX6_isDone_26 (by decide) (by decide) (by decide) ?_
  refine zw_iload2 hB dX6_isDone_116 ?_
  refine zw_bipush (x := nI 30) hB dX6_isDone_117 (by decide) ?_
  refine zw_icmp_gtN (tgt := 146) hB dX6_isDone_119 (by decide) (by omega) (by omega) (fun c119 => ?_) (fun c119 => ?_)
  · refine zw_iconst (x := nI 0) hB dX6_isDone_146 (by decide) ?_
    refine zw_zret hB hR dX6_isDone_147 rfl (by decide) ?_
    exact zDm_f (fun z => by omega) (fun _ _ _ _ => rfl)
  · refine zw_iload3 hB dX6_isDone_122 ?_
    refine zw_bipush (x := nI 30) hB dX6_isDone_123 (by decide) ?_
    refine zw_icmp_gtN (tgt := 146) hB dX6_isDone_125 (by decide) (by omega) (by omega) (fun c125 => ?_) (fun c125 => ?_)
    · refine zw_iconst (x := nI 0) hB dX6_isDone_146 (by decide) ?_
      refine zw_zret hB hR dX6_isDone_147 rfl (by decide) ?_
      exact zDm_f (fun z => by omega) (fun _ _ _ _ => rfl)
    · refine zw_iload4 hB dX6_isDone_128 ?_
      refine zw_bipush (x := nI 30) hB dX6_isDone_130 (by decide) ?_
      refine zw_icmp_gtN (tgt := 146) hB dX6_isDone_132 (by decide) (by omega) (by omega) (fun c132 => ?_) (fun c132 => ?_)
      · refine zw_iconst (x := nI 0) hB dX6_isDone_146 (by decide) ?_
        refine zw_zret hB hR dX6_isDone_147 rfl (by decide) ?_
        exact zDm_f (fun z => by omega) (fun _ _ _ _ => rfl)
      · refine zw_aload0 hB dX6_isDone_135 ?_
        refine zw_getfR hB dX6_isDone_136 zf_X6_9 rfl rfl ?_
        refine zw_iconst (x := nI 0) hB dX6_isDone_139 (by decide) ?_
        refine zw_ialdV (x := nI F) hB dX6_isDone_140 rfl (by omega) (by decide) (hF) ?_
        refine zw_bipush (x := nI 6) hB dX6_isDone_141 (by decide) ?_
        refine zw_icmp_neN (tgt := 148) hB dX6_isDone_143 (by decide) (by omega) (by omega) (fun c143 => ?_) (fun c143 => ?_)
        · refine zw_iconst (x := nI 0) hB dX6_isDone_148 (by decide) ?_
          refine zw_istore6 hB dX6_isDone_149 (by first | rfl | assumption) ?_
          exact hl ⟨by omega, by omega, by omega, by omega⟩ 0 (by omega) σ (fun k hk => absurd hk (by omega)) (fun _ _ => rfl) (fun _ _ => rfl)
        · refine zw_iconst (x := nI 0) hB dX6_isDone_146 (by decide) ?_
          refine zw_zret hB hR dX6_isDone_147 rfl (by decide) ?_
          exact zDm_f (fun z => by omega) (fun _ _ _ _ => rfl)
theorem zAp_of {r r' : zRw} {F P : Nat} {x y : Int32} (h : zGd r F P) (h0 : r' 1 = nI (P + 1)) (h1 : r' (23 + 4 * P) = x) (h2 : r' (24 + 4 * P) = y) (h3 : r' (25 + 4 * P) = nI 0) (h4 : r' (26 + 4 * P) = -9) (o : ∀ k, k ≠ 1 → ¬ (23 + 4 * P ≤ k ∧ k < 27 + 4 * P) → r' k = r k) : r' = zAp r x y := by
  funext k
  unfold zAp
  rw [h.nP]
  by_cases c0 : k = 1
  · rw [if_pos c0, c0, h0]
  · rw [if_neg c0]
    by_cases c1 : k = 23 + 4 * P
    · rw [if_pos c1, c1, h1]
    · rw [if_neg c1]
      by_cases c2 : k = 24 + 4 * P
      · rw [if_pos c2, c2, h2]
      · rw [if_neg c2]
        by_cases c3 : k = 25 + 4 * P
        · rw [if_pos c3, c3, h3]
        · rw [if_neg c3]
          by_cases c4 : k = 26 + 4 * P
          · rw [if_pos c4, c4, h4]
          · rw [if_neg c4]
            exact o k c0 (by omega)
theorem s_X6_isDone_p {n : Nat} {σ : zSt} {F P : Nat} (hg : zGd (zro σ 51) F P) {x y : Int32} (hn0 : σ 60 0 = x) (hn1 : σ 60 1 = y) : zSem (n + 5) mX6_isDone [.ref 50, .int (nI 112)] σ (zDm (if zNP (zro σ 51) < 6 then some (zAp (zro σ 51) x y) else none) σ) := by
  have hF6 := hg.F6
  have hP6 := hg.P6
  have hF : σ 51 0 = nI F := (zro_k (by omega)).symm.trans hg.r0
  have hP : σ 51 1 = nI P := (zro_k (by omega)).symm.trans hg.r1
  have hnF := hg.nF
  have hnP := hg.nP
  refine zSem.of (by decide +kernel) (Nat.le_of_ble_eq_true rfl) (fun X hB hR => ?_)
  show zW X 0 [some (.ref 50), some (.int (nI 112)), none, none, none, none, none] [] σ
  rw [hnP] at hR
  refine zw_aload0 hB dX6_isDone_0 ?_
  refine zw_getfR hB dX6_isDone_1 zf_X6_37 rfl rfl ?_
  refine zw_iconst (x := nI 0) hB dX6_isDone_4 (by decide) ?_
  refine zw_ialdV (x := x) hB dX6_isDone_5 rfl (by omega) (by decide) (hn0) ?_
  refine zw_istore2 hB dX6_isDone_6 (by first | rfl | assumption) ?_
  refine zw_aload0 hB dX6_isDone_7 ?_
  refine zw_getfR hB dX6_isDone_8 zf_X6_37 rfl rfl ?_
  refine zw_iconst (x := nI 1) hB dX6_isDone_11 (by decide) ?_
  refine zw_ialdV (x := y) hB dX6_isDone_12 rfl (by omega) (by decide) (hn1) ?_
  refine zw_istore3 hB dX6_isDone_13 (by first | rfl | assumption) ?_
  refine zw_aload0 hB dX6_isDone_14 ?_
  refine zw_getfR hB dX6_isDone_15 zf_X6_37 rfl rfl ?_
  refine zw_iconst (x := nI 2) hB dX6_isDone_18 (by decide) ?_
  refine zw_ialdV (x := (σ 60 2)) hB dX6_isDone_19 rfl (by omega) (by decide) (rfl) ?_
  refine zw_istore4 hB dX6_isDone_20 (by first | rfl | assumption) ?_
  refine zw_iconst (x := nI 0) hB dX6_isDone_22 (by decide) ?_
  refine zw_istore5 hB dX6_isDone_23 (by first | rfl | assumption) ?_
  refine zw_iload1 hB dX6_isDone_25 ?_
  refine zw_tabG (off := 172) (tgt := 198) hB dX6_isDone_26 (by decide) (by decide) (by decide) ?_
  refine zw_aload0 hB dX6_isDone_198 ?_
  refine zw_getfR hB dX6_isDone_199 zf_X6_9 rfl rfl ?_
  refine zw_iconst (x := nI 1) hB dX6_isDone_202 (by decide) ?_
  refine zw_ialdV (x := nI P) hB dX6_isDone_203 rfl (by omega) (by decide) (hP) ?_
  refine zw_bipush (x := nI 6) hB dX6_isDone_204 (by decide) ?_
  refine zw_icmp_neN (tgt := 211) hB dX6_isDone_206 (by decide) (by omega) (by omega) (fun c206 => ?_) (fun c206 => ?_)
  · refine zw_aload0 hB dX6_isDone_211 ?_
    refine zw_getfR hB dX6_isDone_212 zf_X6_9 rfl rfl ?_
    refine zw_aload0 hB dX6_isDone_215 ?_
    refine zw_getfR hB dX6_isDone_216 zf_X6_9 rfl rfl ?_
    refine zw_iconst (x := nI 1) hB dX6_isDone_219 (by decide) ?_
    refine zw_ialdV (x := nI P) hB dX6_isDone_220 rfl (by omega) (by decide) (hP) ?_
    refine zw_iconst (x := nI 0) hB dX6_isDone_221 (by decide) ?_
    refine zw_callS2P (M' := mX6_of) hB dX6_isDone_222 zl_X6_56 zg_X6_of (s_X6_of) ?_
    refine zw_iload2 hB dX6_isDone_225 ?_
    refine zw_iastN hB dX6_isDone_226 rfl (by omega) (by decide) ?_
    refine zw_aload0 hB dX6_isDone_227 ?_
    refine zw_getfR hB dX6_isDone_228 zf_X6_9 rfl rfl ?_
    refine zw_aload0 hB dX6_isDone_231 ?_
    refine zw_getfR hB dX6_isDone_232 zf_X6_9 rfl rfl ?_
    refine zw_iconst (x := nI 1) hB dX6_isDone_235 (by decide) ?_
    refine zw_ialdV (x := nI P) hB dX6_isDone_236 rfl (by omega) (by decide) (by first | exact hP | (simp only [zC_s, zupd_o (show (1 : Nat) ≠ 23 + 4 * P + 0 by omega), zupd_o (show (1 : Nat) ≠ 23 + 4 * P + 1 by omega), zupd_o (show (1 : Nat) ≠ 23 + 4 * P + 2 by omega), zupd_o (show (1 : Nat) ≠ 23 + 4 * P + 3 by omega)]; exact hP)) ?_
    refine zw_iconst (x := nI 1) hB dX6_isDone_237 (by decide) ?_
    refine zw_callS2P (M' := mX6_of) hB dX6_isDone_238 zl_X6_56 zg_X6_of (s_X6_of) ?_
    refine zw_iload3 hB dX6_isDone_241 ?_
    refine zw_iastN hB dX6_isDone_242 rfl (by omega) (by decide) ?_
    refine zw_aload0 hB dX6_isDone_243 ?_
    refine zw_getfR hB dX6_isDone_244 zf_X6_9 rfl rfl ?_
    refine zw_aload0 hB dX6_isDone_247 ?_
    refine zw_getfR hB dX6_isDone_248 zf_X6_9 rfl rfl ?_
    refine zw_iconst (x := nI 1) hB dX6_isDone_251 (by decide) ?_
    refine zw_ialdV (x := nI P) hB dX6_isDone_252 rfl (by omega) (by decide) (by first | exact hP | (simp only [zC_s, zupd_o (show (1 : Nat) ≠ 23 + 4 * P + 0 by omega), zupd_o (show (1 : Nat) ≠ 23 + 4 * P + 1 by omega), zupd_o (show (1 : Nat) ≠ 23 + 4 * P + 2 by omega), zupd_o (show (1 : Nat) ≠ 23 + 4 * P + 3 by omega)]; exact hP)) ?_
    refine zw_iconst (x := nI 2) hB dX6_isDone_253 (by decide) ?_
    refine zw_callS2P (M' := mX6_of) hB dX6_isDone_254 zl_X6_56 zg_X6_of (s_X6_of) ?_
    refine zw_iconst (x := nI 0) hB dX6_isDone_257 (by decide) ?_
    refine zw_iastN hB dX6_isDone_258 rfl (by omega) (by decide) ?_
    refine zw_aload0 hB dX6_isDone_259 ?_
    refine zw_getfR hB dX6_isDone_260 zf_X6_9 rfl rfl ?_
    refine zw_aload0 hB dX6_isDone_263 ?_
    refine zw_getfR hB dX6_isDone_264 zf_X6_9 rfl rfl ?_
    refine zw_iconst (x := nI 1) hB dX6_isDone_267 (by decide) ?_
    refine zw_ialdV (x := nI P) hB dX6_isDone_268 rfl (by omega) (by decide) (by first | exact hP | (simp only [zC_s, zupd_o (show (1 : Nat) ≠ 23 + 4 * P + 0 by omega), zupd_o (show (1 : Nat) ≠ 23 + 4 * P + 1 by omega), zupd_o (show (1 : Nat) ≠ 23 + 4 * P + 2 by omega), zupd_o (show (1 : Nat) ≠ 23 + 4 * P + 3 by omega)]; exact hP)) ?_
    refine zw_iconst (x := nI 3) hB dX6_isDone_269 (by decide) ?_
    refine zw_callS2P (M' := mX6_of) hB dX6_isDone_270 zl_X6_56 zg_X6_of (s_X6_of) ?_
    refine zw_bipush (x := -9) hB dX6_isDone_273 (by decide) ?_
    refine zw_iastN hB dX6_isDone_275 rfl (by omega) (by decide) ?_
    refine zw_aload0 hB dX6_isDone_276 ?_
    refine zw_getfR hB dX6_isDone_277 zf_X6_9 rfl rfl ?_
    refine zw_iconst (x := nI 1) hB dX6_isDone_280 (by decide) ?_
    refine zw_dup2 hB dX6_isDone_281 rfl rfl ?_
    refine zw_ialdV (x := nI P) hB dX6_isDone_282 rfl (by omega) (by decide) (by first | exact hP | (simp only [zC_s, zupd_o (show (1 : Nat) ≠ 23 + 4 * P + 0 by omega), zupd_o (show (1 : Nat) ≠ 23 + 4 * P + 1 by omega), zupd_o (show (1 : Nat) ≠ 23 + 4 * P + 2 by omega), zupd_o (show (1 : Nat) ≠ 23 + 4 * P + 3 by omega)]; exact hP)) ?_
    refine zw_iconst (x := nI 1) hB dX6_isDone_283 (by decide) ?_
    refine zw_iadd hB dX6_isDone_284 ?_
    refine zw_iastN hB dX6_isDone_285 rfl (by omega) (by decide) ?_
    refine zw_iconst (x := nI 1) hB dX6_isDone_286 (by decide) ?_
    refine zw_zret hB hR dX6_isDone_287 rfl (by decide) ?_
    refine zDm_t (by omega) ?_ (fun c h1 h2 h3 => by simp only [zC_n h1])
    rw [zro_set (by omega), zro_set (by omega), zro_set (by omega), zro_set (by omega), zro_set (by omega)]
    refine zAp_of hg (by rw [zupd_s, nI_add]) ?_ ?_ ?_ ?_ (fun k q1 q2 => ?_)
    · rw [zupd_o (by omega), zupd_o (by omega), zupd_o (by omega), zupd_o (by omega)]; exact zupd_s
    · rw [zupd_o (by omega), zupd_o (by omega), zupd_o (by omega), show 24 + 4 * P = 23 + 4 * P + 1 by omega]; exact zupd_s
    · rw [zupd_o (by omega), zupd_o (by omega), show 25 + 4 * P = 23 + 4 * P + 2 by omega]; exact zupd_s
    · rw [zupd_o (by omega), show 26 + 4 * P = 23 + 4 * P + 3 by omega]; exact zupd_s
    · rw [zupd_o q1, zupd_o (by omega), zupd_o (by omega), zupd_o (by omega), zupd_o (by omega)]
  · refine zw_iconst (x := nI 0) hB dX6_isDone_209 (by decide) ?_
    refine zw_zret hB hR dX6_isDone_210 rfl (by decide) ?_
    exact zDm_f (fun z => by omega) (fun _ _ _ _ => rfl)
theorem s_X6_isDone_a {n : Nat} {σ : zSt} {F P : Nat} (hg : zGd (zro σ 51) F P) {a b : Nat} (ha : a < 10) (hb : b < 10) (hn0 : σ 60 0 = nI a) (hn1 : σ 60 1 = nI b) : zSem (n + 5) mX6_isDone [.ref 50, .int (nI 97)] σ (zDm (if a < zNP (zro σ 51) ∧ b < zNF (zro σ 51) then some (zSt1 (zro σ 51) a b) else none) σ) := by
  have hF6 := hg.F6
  have hP6 := hg.P6
  have hF : σ 51 0 = nI F := (zro_k (by omega)).symm.trans hg.r0
  have hP : σ 51 1 = nI P := (zro_k (by omega)).symm.trans hg.r1
  have hnF := hg.nF
  have hnP := hg.nP
  refine zSem.of (by decide +kernel) (Nat.le_of_ble_eq_true rfl) (fun X hB hR => ?_)
  show zW X 0 [some (.ref 50), some (.int (nI 97)), none, none, none, none, none] [] σ
  rw [hnF, hnP] at hR
  refine zw_aload0 hB dX6_isDone_0 ?_
  refine zw_getfR hB dX6_isDone_1 zf_X6_37 rfl rfl ?_
  refine zw_iconst (x := nI 0) hB dX6_isDone_4 (by decide) ?_
  refine zw_ialdV (x := nI a) hB dX6_isDone_5 rfl (by omega) (by decide) (hn0) ?_
  refine zw_istore2 hB dX6_isDone_6 (by first | rfl | assumption) ?_
  refine zw_aload0 hB dX6_isDone_7 ?_
  refine zw_getfR hB dX6_isDone_8 zf_X6_37 rfl rfl ?_
  refine zw_iconst (x := nI 1) hB dX6_isDone_11 (by decide) ?_
  refine zw_ialdV (x := nI b) hB dX6_isDone_12 rfl (by omega) (by decide) (hn1) ?_
  refine zw_istore3 hB dX6_isDone_13 (by first | rfl | assumption) ?_
  refine zw_aload0 hB dX6_isDone_14 ?_
  refine zw_getfR hB dX6_isDone_15 zf_X6_37 rfl rfl ?_
  refine zw_iconst (x := nI 2) hB dX6_isDone_18 (by decide) ?_
  refine zw_ialdV (x := (σ 60 2)) hB dX6_isDone_19 rfl (by omega) (by decide) (rfl) ?_
  refine zw_istore4 hB dX6_isDone_20 (by first | rfl | assumption) ?_
  refine zw_iconst (x := nI 0) hB dX6_isDone_22 (by decide) ?_
  refine zw_istore5 hB dX6_isDone_23 (by first | rfl | assumption) ?_
  refine zw_iload1 hB dX6_isDone_25 ?_
  refine zw_tabG (off := 262) (tgt := 288) hB dX6_isDone_26 (by decide) (by decide) (by decide) ?_
  refine zw_aload0 hB dX6_isDone_288 ?_
  refine zw_iload2 hB dX6_isDone_289 ?_
  refine zw_callV1P (M' := mX6_isFarmer) hB dX6_isDone_290 zl_X6_113 zg_X6_isFarmer (zRc.of rfl rfl rfl) (s_X6_isFarmer hP hP6 _) ?_
  refine zw_if_eqB (tgt := 304) hB dX6_isDone_293 (by decide) (fun c293 => ?_) (fun c293 => ?_)
  · refine zw_iconst (x := nI 0) hB dX6_isDone_304 (by decide) ?_
    refine zw_zret hB hR dX6_isDone_305 rfl (by decide) ?_
    exact zDm_f (fun z => (c293 ((zIn_lt (by omega) (by omega)).mpr z.1))) (fun _ _ _ _ => rfl)
  · refine zw_aload0 hB dX6_isDone_296 ?_
    refine zw_iload3 hB dX6_isDone_297 ?_
    refine zw_callV1P (M' := mX6_isFarm) hB dX6_isDone_298 zl_X6_117 zg_X6_isFarm (zRc.of rfl rfl rfl) (s_X6_isFarm hF hF6 _) ?_
    refine zw_if_neB (tgt := 306) hB dX6_isDone_301 (by decide) (fun c301 => ?_) (fun c301 => ?_)
    · refine zw_aload0 hB dX6_isDone_306 ?_
      refine zw_getfR hB dX6_isDone_307 zf_X6_9 rfl rfl ?_
      refine zw_iload2 hB dX6_isDone_310 ?_
      refine zw_iload3 hB dX6_isDone_311 ?_
      refine zw_callS3 (M' := mX6_sitsIn) hB dX6_isDone_312 zl_X6_120 zg_X6_sitsIn (s_X6_sitsIn (c := 51) rfl hg ((zIn_lt (by omega) (by omega)).mp c293) ((zIn_lt (by omega) (by omega)).mp c301)) (fun v312 σ312 hq312 => ?_)
      obtain ⟨rfl, x1, x2⟩ := hq312
      refine zw_iconst (x := nI 1) hB dX6_isDone_315 (by decide) ?_
      refine zw_zret hB hR dX6_isDone_316 rfl (by decide) ?_
      exact zDm_t ⟨((zIn_lt (by omega) (by omega)).mp c293), ((zIn_lt (by omega) (by omega)).mp c301)⟩ x1 (fun c h1 _ _ => x2 c h1)
    · refine zw_iconst (x := nI 0) hB dX6_isDone_304 (by decide) ?_
      refine zw_zret hB hR dX6_isDone_305 rfl (by decide) ?_
      exact zDm_f (fun z => (c301 ((zIn_lt (by omega) (by omega)).mpr z.2))) (fun _ _ _ _ => rfl)
theorem s_X6_isDone_o {n : Nat} {σ : zSt} {F P : Nat} (hg : zGd (zro σ 51) F P) {a : Nat} (ha : a < 10) (hn0 : σ 60 0 = nI a) : zSem (n + 5) mX6_isDone [.ref 50, .int (nI 111)] σ (zDm (if a < zNP (zro σ 51) then some (upd (zro σ 51) (26 + 4 * a) (-9)) else none) σ) := by
  have hF6 := hg.F6
  have hP6 := hg.P6
  have hF : σ 51 0 = nI F := (zro_k (by omega)).symm.trans hg.r0
  have hP : σ 51 1 = nI P := (zro_k (by omega)).symm.trans hg.r1
  have hnF := hg.nF
  have hnP := hg.nP
  refine zSem.of (by decide +kernel) (Nat.le_of_ble_eq_true rfl) (fun X hB hR => ?_)
  show zW X 0 [some (.ref 50), some (.int (nI 111)), none, none, none, none, none] [] σ
  rw [hnP] at hR
  refine zw_aload0 hB dX6_isDone_0 ?_
  refine zw_getfR hB dX6_isDone_1 zf_X6_37 rfl rfl ?_
  refine zw_iconst (x := nI 0) hB dX6_isDone_4 (by decide) ?_
  refine zw_ialdV (x := nI a) hB dX6_isDone_5 rfl (by omega) (by decide) (hn0) ?_
  refine zw_istore2 hB dX6_isDone_6 (by first | rfl | assumption) ?_
  refine zw_aload0 hB dX6_isDone_7 ?_
  refine zw_getfR hB dX6_isDone_8 zf_X6_37 rfl rfl ?_
  refine zw_iconst (x := nI 1) hB dX6_isDone_11 (by decide) ?_
  refine zw_ialdV (x := (σ 60 1)) hB dX6_isDone_12 rfl (by omega) (by decide) (rfl) ?_
  refine zw_istore3 hB dX6_isDone_13 (by first | rfl | assumption) ?_
  refine zw_aload0 hB dX6_isDone_14 ?_
  refine zw_getfR hB dX6_isDone_15 zf_X6_37 rfl rfl ?_
  refine zw_iconst (x := nI 2) hB dX6_isDone_18 (by decide) ?_
  refine zw_ialdV (x := (σ 60 2)) hB dX6_isDone_19 rfl (by omega) (by decide) (rfl) ?_
  refine zw_istore4 hB dX6_isDone_20 (by first | rfl | assumption) ?_
  refine zw_iconst (x := nI 0) hB dX6_isDone_22 (by decide) ?_
  refine zw_istore5 hB dX6_isDone_23 (by first | rfl | assumption) ?_
  refine zw_iload1 hB dX6_isDone_25 ?_
  refine zw_tabG (off := 291) (tgt := 317) hB dX6_isDone_26 (by decide) (by decide) (by decide) ?_
  refine zw_aload0 hB dX6_isDone_317 ?_
  refine zw_iload2 hB dX6_isDone_318 ?_
  refine zw_callV1P (M' := mX6_isFarmer) hB dX6_isDone_319 zl_X6_113 zg_X6_isFarmer (zRc.of rfl rfl rfl) (s_X6_isFarmer hP hP6 _) ?_
  refine zw_if_neB (tgt := 327) hB dX6_isDone_322 (by decide) (fun c322 => ?_) (fun c322 => ?_)
  · have haP := ((zIn_lt (by omega) (by omega)).mp c322)
    refine zw_aload0 hB dX6_isDone_327 ?_
    refine zw_getfR hB dX6_isDone_328 zf_X6_9 rfl rfl ?_
    refine zw_iload2 hB dX6_isDone_331 ?_
    refine zw_iconst (x := nI 3) hB dX6_isDone_332 (by decide) ?_
    refine zw_callS2P (M' := mX6_of) hB dX6_isDone_333 zl_X6_56 zg_X6_of (s_X6_of) ?_
    refine zw_bipush (x := -9) hB dX6_isDone_336 (by decide) ?_
    refine zw_iastN hB dX6_isDone_338 rfl (by omega) (by decide) ?_
    refine zw_iconst (x := nI 1) hB dX6_isDone_339 (by decide) ?_
    refine zw_zret hB hR dX6_isDone_340 rfl (by decide) ?_
    exact zDm_t haP (by rw [zro_set (by omega), show 23 + 4 * a + 3 = 26 + 4 * a by omega]) (fun c h1 _ _ => zC_n h1)
  · refine zw_iconst (x := nI 0) hB dX6_isDone_325 (by decide) ?_
    refine zw_zret hB hR dX6_isDone_326 rfl (by decide) ?_
    exact zDm_f (fun z => (c322 ((zIn_lt (by omega) (by omega)).mpr z))) (fun _ _ _ _ => rfl)
theorem s_X6_isDone_h {n : Nat} {σ : zSt} {F P : Nat} (hg : zGd (zro σ 51) F P) {a b e : Nat} (ha : a < 10) (hb : b < 10) (he : e < 100) (hn0 : σ 60 0 = nI a) (hn1 : σ 60 1 = nI b) (hn2 : σ 60 2 = nI e) : zSem (n + 5) mX6_isDone [.ref 50, .int (nI 104)] σ (zDm (if a < zNF (zro σ 51) ∧ b < 3 ∧ e ≤ 30 then some (upd (zro σ 51) (5 + 3 * a + b) (nI e)) else none) σ) := by
  have hF6 := hg.F6
  have hP6 := hg.P6
  have hF : σ 51 0 = nI F := (zro_k (by omega)).symm.trans hg.r0
  have hP : σ 51 1 = nI P := (zro_k (by omega)).symm.trans hg.r1
  have hnF := hg.nF
  have hnP := hg.nP
  refine zSem.of (by decide +kernel) (Nat.le_of_ble_eq_true rfl) (fun X hB hR => ?_)
  show zW X 0 [some (.ref 50), some (.int (nI 104)), none, none, none, none, none] [] σ
  rw [hnF] at hR
  refine zw_aload0 hB dX6_isDone_0 ?_
  refine zw_getfR hB dX6_isDone_1 zf_X6_37 rfl rfl ?_
  refine zw_iconst (x := nI 0) hB dX6_isDone_4 (by decide) ?_
  refine zw_ialdV (x := nI a) hB dX6_isDone_5 rfl (by omega) (by decide) (hn0) ?_
  refine zw_istore2 hB dX6_isDone_6 (by first | rfl | assumption) ?_
  refine zw_aload0 hB dX6_isDone_7 ?_
  refine zw_getfR hB dX6_isDone_8 zf_X6_37 rfl rfl ?_
  refine zw_iconst (x := nI 1) hB dX6_isDone_11 (by decide) ?_
  refine zw_ialdV (x := nI b) hB dX6_isDone_12 rfl (by omega) (by decide) (hn1) ?_
  refine zw_istore3 hB dX6_isDone_13 (by first | rfl | assumption) ?_
  refine zw_aload0 hB dX6_isDone_14 ?_
  refine zw_getfR hB dX6_isDone_15 zf_X6_37 rfl rfl ?_
  refine zw_iconst (x := nI 2) hB dX6_isDone_18 (by decide) ?_
  refine zw_ialdV (x := nI e) hB dX6_isDone_19 rfl (by omega) (by decide) (hn2) ?_
  refine zw_istore4 hB dX6_isDone_20 (by first | rfl | assumption) ?_
  refine zw_iconst (x := nI 0) hB dX6_isDone_22 (by decide) ?_
  refine zw_istore5 hB dX6_isDone_23 (by first | rfl | assumption) ?_
  refine zw_iload1 hB dX6_isDone_25 ?_
  refine zw_tabG (off := 315) (tgt := 341) hB dX6_isDone_26 (by decide) (by decide) (by decide) ?_
  refine zw_aload0 hB dX6_isDone_341 ?_
  refine zw_iload2 hB dX6_isDone_342 ?_
  refine zw_callV1P (M' := mX6_isFarm) hB dX6_isDone_343 zl_X6_117 zg_X6_isFarm (zRc.of rfl rfl rfl) (s_X6_isFarm hF hF6 _) ?_
  refine zw_if_eqB (tgt := 361) hB dX6_isDone_346 (by decide) (fun c346 => ?_) (fun c346 => ?_)
  · refine zw_iconst (x := nI 0) hB dX6_isDone_361 (by decide) ?_
    refine zw_zret hB hR dX6_isDone_362 rfl (by decide) ?_
    exact zDm_f (fun z => (c346 ((zIn_lt (by omega) (by omega)).mpr z.1))) (fun _ _ _ _ => rfl)
  · refine zw_iload3 hB dX6_isDone_349 ?_
    refine zw_iconst (x := nI 3) hB dX6_isDone_350 (by decide) ?_
    refine zw_icmp_geN (tgt := 361) hB dX6_isDone_351 (by decide) (by omega) (by omega) (fun c351 => ?_) (fun c351 => ?_)
    · refine zw_iconst (x := nI 0) hB dX6_isDone_361 (by decide) ?_
      refine zw_zret hB hR dX6_isDone_362 rfl (by decide) ?_
      exact zDm_f (fun z => by omega) (fun _ _ _ _ => rfl)
    · refine zw_iload4 hB dX6_isDone_354 ?_
      refine zw_bipush (x := nI 30) hB dX6_isDone_356 (by decide) ?_
      refine zw_icmp_leN (tgt := 363) hB dX6_isDone_358 (by decide) (by omega) (by omega) (fun c358 => ?_) (fun c358 => ?_)
      · have haF := ((zIn_lt (by omega) (by omega)).mp c346)
        refine zw_aload0 hB dX6_isDone_363 ?_
        refine zw_getfR hB dX6_isDone_364 zf_X6_9 rfl rfl ?_
        refine zw_iload2 hB dX6_isDone_367 ?_
        refine zw_iload3 hB dX6_isDone_368 ?_
        refine zw_callS2P (M' := mX6_heart) hB dX6_isDone_369 zl_X6_60 zg_X6_heart (s_X6_heart) ?_
        refine zw_iload4 hB dX6_isDone_372 ?_
        refine zw_iastN hB dX6_isDone_374 rfl (by omega) (by decide) ?_
        refine zw_iconst (x := nI 1) hB dX6_isDone_375 (by decide) ?_
        refine zw_zret hB hR dX6_isDone_376 rfl (by decide) ?_
        exact zDm_t ⟨haF, by omega, by omega⟩ (zro_set (by omega)) (fun c h1 _ _ => zC_n h1)
      · refine zw_iconst (x := nI 0) hB dX6_isDone_361 (by decide) ?_
        refine zw_zret hB hR dX6_isDone_362 rfl (by decide) ?_
        exact zDm_f (fun z => by omega) (fun _ _ _ _ => rfl)
theorem s_X6_isDone_s {n : Nat} {σ : zSt} {F P : Nat} (hg : zGd (zro σ 51) F P) {a : Nat} (ha : a < 10) (hn0 : σ 60 0 = nI a) : zSem (n + 5) mX6_isDone [.ref 50, .int (nI 115)] σ (zDm (if a ≤ 5 then some (upd (zro σ 51) 2 (nI a)) else none) σ) := by
  have hF6 := hg.F6
  have hP6 := hg.P6
  have hF : σ 51 0 = nI F := (zro_k (by omega)).symm.trans hg.r0
  have hP : σ 51 1 = nI P := (zro_k (by omega)).symm.trans hg.r1
  have hnF := hg.nF
  have hnP := hg.nP
  refine zSem.of (by decide +kernel) (Nat.le_of_ble_eq_true rfl) (fun X hB hR => ?_)
  show zW X 0 [some (.ref 50), some (.int (nI 115)), none, none, none, none, none] [] σ
  refine zw_aload0 hB dX6_isDone_0 ?_
  refine zw_getfR hB dX6_isDone_1 zf_X6_37 rfl rfl ?_
  refine zw_iconst (x := nI 0) hB dX6_isDone_4 (by decide) ?_
  refine zw_ialdV (x := nI a) hB dX6_isDone_5 rfl (by omega) (by decide) (hn0) ?_
  refine zw_istore2 hB dX6_isDone_6 (by first | rfl | assumption) ?_
  refine zw_aload0 hB dX6_isDone_7 ?_
  refine zw_getfR hB dX6_isDone_8 zf_X6_37 rfl rfl ?_
  refine zw_iconst (x := nI 1) hB dX6_isDone_11 (by decide) ?_
  refine zw_ialdV (x := (σ 60 1)) hB dX6_isDone_12 rfl (by omega) (by decide) (rfl) ?_
  refine zw_istore3 hB dX6_isDone_13 (by first | rfl | assumption) ?_
  refine zw_aload0 hB dX6_isDone_14 ?_
  refine zw_getfR hB dX6_isDone_15 zf_X6_37 rfl rfl ?_
  refine zw_iconst (x := nI 2) hB dX6_isDone_18 (by decide) ?_
  refine zw_ialdV (x := (σ 60 2)) hB dX6_isDone_19 rfl (by omega) (by decide) (rfl) ?_
  refine zw_istore4 hB dX6_isDone_20 (by first | rfl | assumption) ?_
  refine zw_iconst (x := nI 0) hB dX6_isDone_22 (by decide) ?_
  refine zw_istore5 hB dX6_isDone_23 (by first | rfl | assumption) ?_
  refine zw_iload1 hB dX6_isDone_25 ?_
  refine zw_tabG (off := 351) (tgt := 377) hB dX6_isDone_26 (by decide) (by decide) (by decide) ?_
  refine zw_aload0 hB dX6_isDone_377 ?_
  refine zw_getfR hB dX6_isDone_378 zf_X6_9 rfl rfl ?_
  refine zw_iconst (x := nI 2) hB dX6_isDone_381 (by decide) ?_
  refine zw_iload2 hB dX6_isDone_382 ?_
  refine zw_iastN hB dX6_isDone_383 rfl (by omega) (by decide) ?_
  refine zw_iload2 hB dX6_isDone_384 ?_
  refine zw_iconst (x := nI 5) hB dX6_isDone_385 (by decide) ?_
  refine zw_icmp_gtN (tgt := 393) hB dX6_isDone_386 (by decide) (by omega) (by omega) (fun c386 => ?_) (fun c386 => ?_)
  · refine zw_iconst (x := nI 0) hB dX6_isDone_393 (by decide) ?_
    refine zw_zret hB hR dX6_isDone_394 rfl (by decide) ?_
    exact zDm_f (fun z => by omega) (fun c h1 _ _ => zC_n h1)
  · refine zw_iconst (x := nI 1) hB dX6_isDone_389 (by decide) ?_
    refine zw_goto (tgt := 394) hB dX6_isDone_390 (by decide) ?_
    refine zw_zret hB hR dX6_isDone_394 rfl (by decide) ?_
    exact zDm_t (by omega) (zro_set (by omega)) (fun c h1 _ _ => zC_n h1)
theorem s_X6_isDone_y {n : Nat} {σ : zSt} {F P : Nat} (hg : zGd (zro σ 51) F P) {a y : Nat} (ha : a < 100) (hy : y ≤ 999) (ey : zro σ 51 4 = nI y) (hn0 : σ 60 0 = nI a) : zSem (n + 5) mX6_isDone [.ref 50, .int (nI 121)] σ (zDm (zdY a (zro σ 51)) σ) := by
  have hF6 := hg.F6
  have hP6 := hg.P6
  have hF : σ 51 0 = nI F := (zro_k (by omega)).symm.trans hg.r0
  have hP : σ 51 1 = nI P := (zro_k (by omega)).symm.trans hg.r1
  have hnF := hg.nF
  have hnP := hg.nP
  refine zSem.of (by decide +kernel) (Nat.le_of_ble_eq_true rfl) (fun X hB hR => ?_)
  show zW X 0 [some (.ref 50), some (.int (nI 121)), none, none, none, none, none] [] σ
  unfold zdY at hR
  rw [ey, nI_clamp (by omega)] at hR
  refine zw_aload0 hB dX6_isDone_0 ?_
  refine zw_getfR hB dX6_isDone_1 zf_X6_37 rfl rfl ?_
  refine zw_iconst (x := nI 0) hB dX6_isDone_4 (by decide) ?_
  refine zw_ialdV (x := nI a) hB dX6_isDone_5 rfl (by omega) (by decide) (hn0) ?_
  refine zw_istore2 hB dX6_isDone_6 (by first | rfl | assumption) ?_
  refine zw_aload0 hB dX6_isDone_7 ?_
  refine zw_getfR hB dX6_isDone_8 zf_X6_37 rfl rfl ?_
  refine zw_iconst (x := nI 1) hB dX6_isDone_11 (by decide) ?_
  refine zw_ialdV (x := (σ 60 1)) hB dX6_isDone_12 rfl (by omega) (by decide) (rfl) ?_
  refine zw_istore3 hB dX6_isDone_13 (by first | rfl | assumption) ?_
  refine zw_aload0 hB dX6_isDone_14 ?_
  refine zw_getfR hB dX6_isDone_15 zf_X6_37 rfl rfl ?_
  refine zw_iconst (x := nI 2) hB dX6_isDone_18 (by decide) ?_
  refine zw_ialdV (x := (σ 60 2)) hB dX6_isDone_19 rfl (by omega) (by decide) (rfl) ?_
  refine zw_istore4 hB dX6_isDone_20 (by first | rfl | assumption) ?_
  refine zw_iconst (x := nI 0) hB dX6_isDone_22 (by decide) ?_
  refine zw_istore5 hB dX6_isDone_23 (by first | rfl | assumption) ?_
  refine zw_iload1 hB dX6_isDone_25 ?_
  refine zw_tabG (off := 369) (tgt := 395) hB dX6_isDone_26 (by decide) (by decide) (by decide) ?_
  refine zw_iload2 hB dX6_isDone_395 ?_
  refine zw_iconst (x := nI 1) hB dX6_isDone_396 (by decide) ?_
  refine zw_bipush (x := nI 60) hB dX6_isDone_397 (by decide) ?_
  refine zw_callS3P (M' := mX6_isIn) hB dX6_isDone_399 zl_X6_52 zg_X6_isIn (s_X6_isIn _ _ _) ?_
  refine zw_if_eqB (tgt := 419) hB dX6_isDone_402 (by decide) (fun c402 => ?_) (fun c402 => ?_)
  · refine zw_iconst (x := nI 0) hB dX6_isDone_419 (by decide) ?_
    refine zw_zret hB hR dX6_isDone_420 rfl (by decide) ?_
    exact zDm_f (fun z => c402 ⟨(nI_leI (by omega) (by omega)).mpr z.1, (nI_leI (by omega) (by omega)).mpr z.2.1⟩) (fun _ _ _ _ => rfl)
  · refine zw_aload0 hB dX6_isDone_405 ?_
    refine zw_getfR hB dX6_isDone_406 zf_X6_9 rfl rfl ?_
    refine zw_iconst (x := nI 4) hB dX6_isDone_409 (by decide) ?_
    refine zw_ialdV (x := nI y) hB dX6_isDone_410 rfl (by omega) (by decide) ((zro_k (by omega)).symm.trans ey) ?_
    refine zw_iload2 hB dX6_isDone_411 ?_
    refine zw_iaddN hB dX6_isDone_412 ?_
    refine zw_sipush (x := nI 999) hB dX6_isDone_413 (by decide) ?_
    refine zw_icmp_leN (tgt := 421) hB dX6_isDone_416 (by decide) (by omega) (by omega) (fun c416 => ?_) (fun c416 => ?_)
    · refine zw_aload0 hB dX6_isDone_421 ?_
      refine zw_aload0 hB dX6_isDone_422 ?_
      refine zw_getfR hB dX6_isDone_423 zf_X6_9 rfl rfl ?_
      refine zw_iload2 hB dX6_isDone_426 ?_
      refine zw_callV2 (M' := mX6_yearsOn) hB dX6_isDone_427 zl_X6_124 zg_X6_yearsOn (zRc.of rfl rfl rfl) (s_X6_yearsOn (c := 51) rfl (by omega) hg (by omega)) (fun v427 σ427 hq427 => ?_)
      obtain ⟨rfl, x1, x2, x3, x4⟩ := hq427
      refine zw_istore5 hB dX6_isDone_430 (by first | rfl | assumption) ?_
      refine zw_iconst (x := nI 1) hB dX6_isDone_432 (by decide) ?_
      refine zw_zret hB hR dX6_isDone_433 rfl (by decide) ?_
      exact zDm_t ⟨(nI_leI (by omega) (by omega)).mp c402.1, (nI_leI (by omega) (by omega)).mp c402.2, c416⟩ x1 x4
    · refine zw_iconst (x := nI 0) hB dX6_isDone_419 (by decide) ?_
      refine zw_zret hB hR dX6_isDone_420 rfl (by decide) ?_
      exact zDm_f (fun z => by omega) (fun _ _ _ _ => rfl)
