/-! NEXT: the reference -/
theorem zfst_no {p : Nat → Bool} : ∀ k i, (∀ j, i ≤ j → j < i + k → ¬ p j = true) → zfst p i k = none := by
  intro k
  induction k with
  | zero => intro i _; rfl
  | succ k ih =>
    intro i h
    unfold zfst
    rw [if_neg (h i (Nat.le_refl _) (by omega))]
    exact ih (i + 1) (fun j h1 h2 => h j (by omega) (by omega))
theorem zfst_so {p : Nat → Bool} {q : Nat} (hp : p q = true) : ∀ k i, i ≤ q → q < i + k → (∀ j, i ≤ j → j < q → ¬ p j = true) → zfst p i k = some q := by
  intro k
  induction k with
  | zero => intro i h1 h2 _; exact absurd h2 (by omega)
  | succ k ih =>
    intro i h1 h2 h
    unfold zfst
    by_cases e : i = q
    · rw [e, if_pos hp]
    · rw [if_neg (h i (Nat.le_refl _) (by omega))]
      exact ih (i + 1) (by omega) (by omega) (fun j h1 h2 => h j (by omega) h2)
/-- the first best farm below j -/
def zEj (c N : Nat → Nat) (T : Nat) : Nat → Option (Nat × Nat)
  | 0 => none
  | j + 1 => if T.testBit j = true then zEj c N T j else match zEj c N T j with
    | none => some (c j + N (T ||| 2 ^ j), j)
    | some q => if q.1 < c j + N (T ||| 2 ^ j) then some (c j + N (T ||| 2 ^ j), j) else some q
theorem zEj_b {c N : Nat → Nat} {T j : Nat} (h : T.testBit j = true) : zEj c N T (j + 1) = zEj c N T j := if_pos h
theorem zEj_o {c N : Nat → Nat} {T j : Nat} (h : ¬ T.testBit j = true) (e : zEj c N T j = none) : zEj c N T (j + 1) = some (c j + N (T ||| 2 ^ j), j) := by
  unfold zEj
  rw [if_neg h, e]
theorem zEj_l {c N : Nat → Nat} {T j a i : Nat} (h : ¬ T.testBit j = true) (e : zEj c N T j = some (a, i)) (g : a < c j + N (T ||| 2 ^ j)) : zEj c N T (j + 1) = some (c j + N (T ||| 2 ^ j), j) := by
  unfold zEj
  rw [if_neg h, e]
  exact if_pos g
theorem zEj_k {c N : Nat → Nat} {T j a i : Nat} (h : ¬ T.testBit j = true) (e : zEj c N T j = some (a, i)) (g : ¬ a < c j + N (T ||| 2 ^ j)) : zEj c N T (j + 1) = some (a, i) := by
  unfold zEj
  rw [if_neg h, e]
  exact if_neg g
theorem zEj_sp (c N : Nat → Nat) (T : Nat) : ∀ j, (zEj c N T j = none ∧ zbj c N T j = N T ∧ ∀ i, i < j → T.testBit i = true) ∨ ∃ a i, zEj c N T j = some (a, i) ∧ i < j ∧ ¬ T.testBit i = true ∧ a = c i + N (T ||| 2 ^ i) ∧ (∀ q, q < j → ¬ T.testBit q = true → c q + N (T ||| 2 ^ q) ≤ a) ∧ (∀ q, q < i → ¬ T.testBit q = true → c q + N (T ||| 2 ^ q) < a) ∧ zbj c N T j = if N T < a then a else N T := by
  intro j
  induction j with
  | zero => exact Or.inl ⟨rfl, rfl, fun i hi => absurd hi (by omega)⟩
  | succ j ih =>
    by_cases hb : T.testBit j = true
    · have z1 : zbj c N T (j + 1) = zbj c N T j := if_pos hb
      rw [zEj_b hb, z1]
      rcases ih with ⟨e, h1, h2⟩ | ⟨a, i, e, h1, h2, h3, h4, h5, h6⟩
      · refine Or.inl ⟨e, h1, fun i hi => ?_⟩
        by_cases q : i = j
        · rw [q]; exact hb
        · exact h2 i (by omega)
      · refine Or.inr ⟨a, i, e, by omega, h2, h3, fun q hq hn => ?_, h5, h6⟩
        by_cases u : q = j
        · rw [u] at hn; exact absurd hb hn
        · exact h4 q (by omega) hn
    · have z1 : zbj c N T (j + 1) = if zbj c N T j < c j + N (T ||| 2 ^ j) then c j + N (T ||| 2 ^ j) else zbj c N T j := if_neg hb
      rw [z1]
      rcases ih with ⟨e, h1, h2⟩ | ⟨a, i, e, h1, h2, h3, h4, h5, h6⟩
      · refine Or.inr ⟨_, _, zEj_o hb e, by omega, hb, rfl, fun q hq hn => ?_, fun q hq hn => absurd (h2 q hq) hn, by rw [h1]⟩
        by_cases u : q = j
        · rw [u]; exact Nat.le_refl _
        · exact absurd (h2 q (by omega)) hn
      · by_cases g : a < c j + N (T ||| 2 ^ j)
        · refine Or.inr ⟨_, _, zEj_l hb e g, by omega, hb, rfl, fun q hq hn => ?_, fun q hq hn => ?_, ?_⟩
          · by_cases u : q = j
            · rw [u]; exact Nat.le_refl _
            · have := h4 q (by omega) hn; omega
          · have := h4 q (by omega) hn; omega
          · rw [h6]
            split <;> split <;> (try split) <;> omega
        · refine Or.inr ⟨a, i, zEj_k hb e g, by omega, h2, h3, fun q hq hn => ?_, h5, ?_⟩
          · by_cases u : q = j
            · rw [u]; omega
            · exact h4 q (by omega) hn
          · rw [h6]
            split <;> (try split) <;> (try split) <;> omega
theorem zse_no {c N : Nat → Nat} {T b F : Nat} (h : ∀ j, j < F → ¬ T.testBit j = true → ¬ c j + N (T ||| 2 ^ j) = b) : zse c N T b F = none := by
  refine zfst_no F 0 (fun j _ hj z => ?_)
  rw [decide_eq_true_eq] at z
  exact h j (by omega) z.1 z.2
theorem zse_so {c N : Nat → Nat} {T b F i : Nat} (hi : i < F) (h1 : ¬ T.testBit i = true) (h2 : c i + N (T ||| 2 ^ i) = b) (h : ∀ j, j < i → ¬ T.testBit j = true → ¬ c j + N (T ||| 2 ^ j) = b) : zse c N T b F = some i := by
  refine zfst_so (decide_eq_true ⟨h1, h2⟩) F 0 (by omega) (by omega) (fun j _ hj z => ?_)
  rw [decide_eq_true_eq] at z
  exact h j hj z.1 z.2
theorem zbg_lt {b v : Nat} (hb : b < 1000) (hv : v < 1000) : zbg b < nI v ↔ b ≤ v := by
  cases b with
  | zero => exact ⟨fun _ => by omega, fun _ => Int32.lt_of_lt_of_le (show (-1 : Int32) < 0 by decide) (Int32.not_lt.mp (nI_pos (by omega)))⟩
  | succ b => rw [zbg_s, nI_ltI (by omega) (by omega)]; omega
/-- what sets leaves, of the last k from p on -/
def zSq (c : Nat → Nat → Nat) (F P k p T v b : Nat) (σ τ : zSt) : Prop := (∀ d, d ≠ 50 → d ≠ 61 → d ≠ 62 → τ d = σ d) ∧ (∀ i, i ≠ 16 → τ 50 i = σ 50 i) ∧ (∀ q, q < p → τ 61 q = σ 61 q) ∧
  ((b ≤ v + zbs c F P k T ∧ τ 50 16 = zbg (v + zbs c F P k T + 1) ∧ ∀ q, q < P → τ 62 q = if q < p then σ 61 q else zcp c F P k T q) ∨ (v + zbs c F P k T < b ∧ τ 50 16 = zbg b ∧ ∀ q, q < P → τ 62 q = σ 62 q))
def zIw (c : Nat → Nat → Nat) (F P k p T v b j b' : Nat) (σ υ : zSt) : Prop := (zEj (c p) (zbs c F P k) T j = none ∧ b' = b ∧ ∀ q, q < P → υ 62 q = σ 62 q) ∨ ∃ a i, zEj (c p) (zbs c F P k) T j = some (a, i) ∧ ((b ≤ v + a ∧ b' = v + a + 1 ∧ ∀ q, q < P → υ 62 q = if q < p then σ 61 q else if q = p then nI i else zcp c F P k (T ||| 2 ^ i) q) ∨ (v + a < b ∧ b' = b ∧ ∀ q, q < P → υ 62 q = σ 62 q))
def zIv (c : Nat → Nat → Nat) (F P k p T v b j : Nat) (σ υ : zSt) : Prop := (∀ d, d ≠ 50 → d ≠ 61 → d ≠ 62 → υ d = σ d) ∧ (∀ i, i ≠ 16 → υ 50 i = σ 50 i) ∧ (∀ q, q < p → υ 61 q = σ 61 q) ∧ ∃ b', υ 50 16 = zbg b' ∧ b' ≤ 200 ∧ zIw c F P k p T v b j b' σ υ
theorem zIv_skip {c : Nat → Nat → Nat} {F P k p T v b j : Nat} {σ υ : zSt} (ht : T.testBit j = true) (h : zIv c F P k p T v b j σ υ) : zIv c F P k p T v b (j + 1) σ υ := by
  unfold zIv zIw at h ⊢
  rw [zEj_b ht]
  exact h
theorem zIv_take {c : Nat → Nat → Nat} {F P k p T v b j b' : Nat} {σ υ τ : zSt} (ht : ¬ T.testBit j = true) (i1 : ∀ d, d ≠ 50 → d ≠ 61 → d ≠ 62 → υ d = σ d) (i2 : ∀ i, i ≠ 16 → υ 50 i = σ 50 i) (i3 : ∀ q, q < p → υ 61 q = σ 61 q) (hb2 : b' ≤ 200) (hv : v + c p j + zbs c F P k (T ||| 2 ^ j) < 199) (hd : zIw c F P k p T v b j b' σ υ)
    (hq : zSq c F P k (p + 1) (T ||| 2 ^ j) (v + c p j) b' (zC υ 61 (upd (υ 61) p (nI j))) τ) : zIv c F P k p T v b (j + 1) σ τ := by
  obtain ⟨q1, q2, q3, q4⟩ := hq
  have k62 : ∀ q, (zC υ 61 (upd (υ 61) p (nI j))) 62 q = υ 62 q := fun q => congrFun (zC_n (by omega)) q
  have kG : ∀ q, q < P → τ 62 q = (if q < p + 1 then (zC υ 61 (upd (υ 61) p (nI j))) 61 q else zcp c F P k (T ||| 2 ^ j) q) → τ 62 q = if q < p then σ 61 q else if q = p then nI j else zcp c F P k (T ||| 2 ^ j) q := by
    intro q hq w
    rw [w]
    by_cases c1 : q < p
    · rw [if_pos (by omega), if_pos c1, zC_s, zupd_o (by omega)]; exact i3 q c1
    · by_cases c2 : q = p
      · rw [if_pos (by omega), if_neg c1, if_pos c2, zC_s, c2, zupd_s]
      · rw [if_neg (by omega), if_neg c1, if_neg c2]
  refine ⟨fun d h1 h2 h3 => (q1 d h1 h2 h3).trans ((zC_n h2).trans (i1 d h1 h2 h3)), fun i hi => (q2 i hi).trans ((congrFun (zC_n (by omega)) i).trans (i2 i hi)), fun q hq => (q3 q (by omega)).trans (by rw [zC_s, zupd_o (by omega)]; exact i3 q hq), ?_⟩
  rcases hd with ⟨e, hbb, g⟩ | ⟨a, i, e, hd⟩
  · rcases q4 with ⟨w1, w2, w3⟩ | ⟨w1, w2, w3⟩
    · exact ⟨_, w2, by omega, Or.inr ⟨_, _, zEj_o ht e, Or.inl ⟨by omega, by omega, fun q hq => kG q hq (w3 q hq)⟩⟩⟩
    · exact ⟨_, w2, hb2, Or.inr ⟨_, _, zEj_o ht e, Or.inr ⟨by omega, hbb, fun q hq => (w3 q hq).trans ((k62 q).trans (g q hq))⟩⟩⟩
  · by_cases lt : a < c p j + zbs c F P k (T ||| 2 ^ j)
    · rcases q4 with ⟨w1, w2, w3⟩ | ⟨w1, w2, w3⟩
      · refine ⟨_, w2, by omega, Or.inr ⟨_, _, zEj_l ht e lt, Or.inl ⟨?_, by omega, fun q hq => kG q hq (w3 q hq)⟩⟩⟩
        rcases hd with ⟨h1, h2, h3⟩ | ⟨h1, h2, h3⟩ <;> omega
      · rcases hd with ⟨h1, h2, h3⟩ | ⟨h1, h2, h3⟩
        · omega
        · exact ⟨_, w2, hb2, Or.inr ⟨_, _, zEj_l ht e lt, Or.inr ⟨by omega, h2, fun q hq => (w3 q hq).trans ((k62 q).trans (h3 q hq))⟩⟩⟩
    · rcases q4 with ⟨w1, w2, w3⟩ | ⟨w1, w2, w3⟩
      · rcases hd with ⟨h1, h2, h3⟩ | ⟨h1, h2, h3⟩ <;> omega
      · rcases hd with ⟨h1, h2, h3⟩ | ⟨h1, h2, h3⟩
        · exact ⟨_, w2, hb2, Or.inr ⟨_, _, zEj_k ht e lt, Or.inl ⟨h1, h2, fun q hq => (w3 q hq).trans ((k62 q).trans (h3 q hq))⟩⟩⟩
        · exact ⟨_, w2, hb2, Or.inr ⟨_, _, zEj_k ht e lt, Or.inr ⟨h1, h2, fun q hq => (w3 q hq).trans ((k62 q).trans (h3 q hq))⟩⟩⟩
theorem zIv_end {c : Nat → Nat → Nat} {F P k p T v b b' : Nat} {σ υ τ : zSt} (hp : p + (k + 1) = P) (i1 : ∀ d, d ≠ 50 → d ≠ 61 → d ≠ 62 → υ d = σ d) (i2 : ∀ i, i ≠ 16 → υ 50 i = σ 50 i) (i3 : ∀ q, q < p → υ 61 q = σ 61 q) (hd : zIw c F P k p T v b F b' σ υ)
    (hq : zSq c F P k (p + 1) T v b' (zC υ 61 (upd (υ 61) p (-9))) τ) : zSq c F P (k + 1) p T v b σ τ := by
  obtain ⟨q1, q2, q3, q4⟩ := hq
  have k62 : ∀ q, (zC υ 61 (upd (υ 61) p (-9))) 62 q = υ 62 q := fun q => congrFun (zC_n (by omega)) q
  have ep : P - (k + 1) = p := by omega
  have ez : zbs c F P (k + 1) T = zbj (c p) (zbs c F P k) T F := by
    show zbj (c (P - (k + 1))) _ _ _ = _
    rw [ep]
  have ec : ∀ q s, zse (c p) (zbs c F P k) T (zbs c F P (k + 1) T) F = s → zcp c F P (k + 1) T q = if q = p then zopt s else zcp c F P k (zsp T s) q := by
    intro q s hs
    show (if q = P - (k + 1) then zopt (zse (c (P - (k + 1))) _ _ _ _) else zcp c F P k (zsp T (zse (c (P - (k + 1))) _ _ _ _)) q) = _
    rw [ep, hs]
  refine ⟨fun d h1 h2 h3 => (q1 d h1 h2 h3).trans ((zC_n h2).trans (i1 d h1 h2 h3)), fun i hi => (q2 i hi).trans ((congrFun (zC_n (by omega)) i).trans (i2 i hi)), fun q hq => (q3 q (by omega)).trans (by rw [zC_s, zupd_o (by omega)]; exact i3 q hq), ?_⟩
  have kN : zse (c p) (zbs c F P k) T (zbs c F P (k + 1) T) F = none → ∀ q, q < P → τ 62 q = (if q < p + 1 then (zC υ 61 (upd (υ 61) p (-9))) 61 q else zcp c F P k T q) → τ 62 q = if q < p then σ 61 q else zcp c F P (k + 1) T q := by
    intro hs q hq w
    rw [w, ec q _ hs]
    by_cases c1 : q < p
    · rw [if_pos (by omega), if_pos c1, zC_s, zupd_o (by omega)]; exact i3 q c1
    · by_cases c2 : q = p
      · rw [if_pos (by omega), if_neg c1, if_pos c2, zC_s, c2, zupd_s]; rfl
      · rw [if_neg (by omega), if_neg c1, if_neg c2]; rfl
  rcases zEj_sp (c p) (zbs c F P k) T F with ⟨e, h1, h2⟩ | ⟨a, i, e, h1, h2, h3, h4, h5, h6⟩
  · have hs : zse (c p) (zbs c F P k) T (zbs c F P (k + 1) T) F = none := zse_no (fun j hj hn => absurd (h2 j hj) hn)
    rw [ez, h1]
    rcases hd with ⟨_, hbb, g⟩ | ⟨a, i, e', _⟩
    · rcases q4 with ⟨w1, w2, w3⟩ | ⟨w1, w2, w3⟩
      · exact Or.inl ⟨by omega, w2, fun q hq => kN hs q hq (w3 q hq)⟩
      · exact Or.inr ⟨by omega, by rw [← hbb]; exact w2, fun q hq => (w3 q hq).trans ((k62 q).trans (g q hq))⟩
    · rw [e] at e'; cases e'
  · rcases hd with ⟨e', _, _⟩ | ⟨a2, i2', e', hd⟩
    · rw [e] at e'; cases e'
    · have e3 : a2 = a ∧ i2' = i := by rw [e] at e'; cases e'; exact ⟨rfl, rfl⟩
      rw [e3.1, e3.2] at hd
      by_cases c1 : zbs c F P k T ≤ a
      · have e4 : zbs c F P (k + 1) T = a := by
          rw [ez, h6]; split <;> omega
        have hs : zse (c p) (zbs c F P k) T (zbs c F P (k + 1) T) F = some i := zse_so h1 h2 (by rw [e4, h3]) (fun j hj hn => by have := h5 j hj hn; omega)
        rcases hd with ⟨g1, g2, g3⟩ | ⟨g1, g2, g3⟩
        · rcases q4 with ⟨w1, w2, w3⟩ | ⟨w1, w2, w3⟩
          · omega
          · refine Or.inl ⟨by omega, by rw [w2, g2, e4], fun q hq => ?_⟩
            rw [w3 q hq, k62 q, g3 q hq, ec q _ hs]
            rfl
        · rcases q4 with ⟨w1, w2, w3⟩ | ⟨w1, w2, w3⟩
          · omega
          · exact Or.inr ⟨by omega, by rw [w2, g2], fun q hq => (w3 q hq).trans ((k62 q).trans (g3 q hq))⟩
      · have e4 : zbs c F P (k + 1) T = zbs c F P k T := by
          rw [ez, h6]; split <;> omega
        have hs : zse (c p) (zbs c F P k) T (zbs c F P (k + 1) T) F = none := zse_no (fun j hj hn => by have := h4 j hj hn; omega)
        rw [e4]
        rcases q4 with ⟨w1, w2, w3⟩ | ⟨w1, w2, w3⟩
        · refine Or.inl ⟨?_, w2, fun q hq => kN hs q hq (w3 q hq)⟩
          rcases hd with ⟨g1, g2, g3⟩ | ⟨g1, g2, g3⟩ <;> omega
        · rcases hd with ⟨g1, g2, g3⟩ | ⟨g1, g2, g3⟩
          · omega
          · exact Or.inr ⟨by omega, by rw [w2, g2], fun q hq => (w3 q hq).trans ((k62 q).trans (g3 q hq))⟩
theorem nI_n1 {q : Nat} (h : q < 2 ^ 31) : ¬ nI q = -1 := fun e => nI_pos h (by rw [e]; decide)
theorem zgb_cg {r : zRw} {F P p f : Nat} (h : zGd r F P) (hf : f < 6) : zgb r p (nI f) = nI (zcg r p f) := by
  rw [← (zcg_n h hf).1]
  unfold zgb zga
  rw [nI_clamp (by omega)]
  by_cases c : ztd r p < nI 10
  · rw [if_neg (fun z => z.elim (fun z => nI_pos (by omega) z) (fun z => Int32.not_le.mpr c z)), if_pos c]
  · rw [if_pos (Or.inr (Int32.not_lt.mp c)), if_neg c]

theorem s_X6_sets {F P : Nat} {r : zRw} (hg0 : zGd r F P) : ∀ (k : Nat) {m : Nat} {σ : zSt} (p T v b : Nat), k + 2 ≤ m → p + k = P → T < 2 ^ F → v ≤ 18 * p → b ≤ 200 → σ 50 16 = zbg b → zro σ 51 = r → zSem m mX6_sets [.ref 50, .int (nI p), .int (nI T), .int (nI v)] σ (fun x τ => x = none ∧ zSq (zcg r) F P k p T v b σ τ) := by
  have hF6 := hg0.F6
  have hP6 := hg0.P6
  have h64 := z2F F hF6
  intro k
  induction k with
  | zero =>
    intro m σ p T v b hm hpk hT hv hb2 hb hr
    have hg : zGd (zro σ 51) F P := by rw [hr]; exact hg0
    have hP : σ 51 1 = nI P := (zro_k (by omega)).symm.trans hg.r1
    refine zSem.of (by decide +kernel) (Nat.le_of_ble_eq_true rfl) (fun X hB hR => ?_)
    show zW X 0 [some (.ref 50), some (.int (nI p)), some (.int (nI T)), some (.int (nI v)), none] [] σ
    have hcop : b ≤ v → ∀ i, i ≤ 6 → ∀ υ : zSt, (∀ q, q < i → υ 62 q = σ 61 q) → (∀ d, d ≠ 62 → υ d = (zC σ 50 (upd (σ 50) 16 (nI v))) d) → zW X 27 [some (.ref 50), some (.int (nI p)), some (.int (nI T)), some (.int (nI v)), some (.int (nI i))] [] υ := by
      intro hbv
      refine zfor 6 (fun i hi ih => ?_)
      intro υ hv ou
      refine zw_iload4 hB dX6_sets_27 ?_
      refine zw_bipush (x := nI 6) hB dX6_sets_29 (by decide) ?_
      refine zw_icmp_geN (tgt := 54) hB dX6_sets_31 (by decide) (by omega) (by omega) (fun c31 => ?_) (fun c31 => ?_)
      · refine zw_vret hB hR dX6_sets_54 rfl ?_
        refine ⟨rfl, fun d h1 h2 h3 => ?_, fun q hq => ?_, fun q hq => ?_, Or.inl ⟨hbv, ?_, fun q hq => ?_⟩⟩
        · rw [ou d h3, zC_n h1]
        · rw [ou 50 (by omega), zC_s, zupd_o hq]
        · rw [ou 61 (by omega), zC_n (by omega)]
        · rw [ou 50 (by omega), zC_s, zupd_s]; exact (zbg_s v).symm
        · rw [hv q (by omega), if_pos (by omega)]
      · refine zw_aload0 hB dX6_sets_34 ?_
        refine zw_getfR hB dX6_sets_35 zf_X6_43 rfl rfl ?_
        refine zw_iload4 hB dX6_sets_38 ?_
        refine zw_aload0 hB dX6_sets_40 ?_
        refine zw_getfR hB dX6_sets_41 zf_X6_40 rfl rfl ?_
        refine zw_iload4 hB dX6_sets_44 ?_
        refine zw_ialdV (x := σ 61 i) hB dX6_sets_46 rfl (by omega) (by decide) (by rw [ou 61 (by omega), zC_n (by omega)]) ?_
        refine zw_iastN hB dX6_sets_47 rfl (by omega) (by decide) ?_
        refine zw_iinc4 hB dX6_sets_48 (by first | exact zinc _ | rfl) (by first | rfl | assumption) ?_
        refine zw_goto (tgt := 27) hB dX6_sets_51 (by decide) ?_
        refine ih c31 _ (fun q hq => ?_) (fun d hd => by rw [zC_n hd]; exact ou d hd)
        rw [zC_s]
        by_cases e : q = i
        · rw [e, zupd_s]
        · rw [zupd_o e]; exact hv q (by omega)
    refine zw_iload1 hB dX6_sets_0 ?_
    refine zw_aload0 hB dX6_sets_1 ?_
    refine zw_getfR hB dX6_sets_2 zf_X6_9 rfl rfl ?_
    refine zw_iconst (x := nI 1) hB dX6_sets_5 (by decide) ?_
    refine zw_ialdV (x := nI P) hB dX6_sets_6 rfl (by omega) (by decide) (hP) ?_
    refine zw_icmp_neN (tgt := 55) hB dX6_sets_7 (by decide) (by omega) (by omega) (fun c7 => by first | exact absurd c7 (by omega) | exact absurd (by omega) c7 | omega) (fun c7 => ?_)
    refine zw_iload3 hB dX6_sets_10 ?_
    refine zw_aload0 hB dX6_sets_11 ?_
    refine zw_getfV (x := zbg b) hB dX6_sets_12 zf_X6_148 rfl rfl (hb) ?_
    refine zw_icmp_gt (tgt := 19) hB dX6_sets_15 (by decide) (fun c15 => ?_) (fun c15 => ?_)
    · refine zw_aload0 hB dX6_sets_19 ?_
      refine zw_iload3 hB dX6_sets_20 ?_
      refine zw_putfI hB dX6_sets_21 zfw_X6_148 rfl rfl ?_
      refine zw_iconst (x := nI 0) hB dX6_sets_24 (by decide) ?_
      refine zw_istore4 hB dX6_sets_25 (by first | rfl | assumption) ?_
      have hbv : b ≤ v := (zbg_lt (by omega) (by omega)).mp c15
      exact hcop hbv 0 (by omega) _ (fun q hq => absurd hq (by omega)) (fun _ _ => rfl)
    · refine zw_vret hB hR dX6_sets_18 rfl ?_
      have hbv : v < b := Nat.lt_of_not_le (fun z => c15 ((zbg_lt (by omega) (by omega)).mpr z))
      exact ⟨rfl, fun _ _ _ _ => rfl, fun _ _ => rfl, fun _ _ => rfl, Or.inr ⟨hbv, hb, fun _ _ => rfl⟩⟩
  | succ k ih =>
    intro m σ p T v b hm hpk hT hv hb2 hb hr
    obtain ⟨n, rfl⟩ : ∃ q, m = (q + 1) + 1 := ⟨m - 2, by omega⟩
    have hg : zGd (zro σ 51) F P := by rw [hr]; exact hg0
    have hF : σ 51 0 = nI F := (zro_k (by omega)).symm.trans hg.r0
    have hP : σ 51 1 = nI P := (zro_k (by omega)).symm.trans hg.r1
    rw [← hr] at ih ⊢
    refine zSem.of (by decide +kernel) (Nat.le_of_ble_eq_true rfl) (fun X hB hR => ?_)
    show zW X 0 [some (.ref 50), some (.int (nI p)), some (.int (nI T)), some (.int (nI v)), none] [] σ
    have hl : ∀ j, j ≤ F → ∀ υ : zSt, zIv (zcg (zro σ 51)) F P k p T v b j σ υ → zW X 58 [some (.ref 50), some (.int (nI p)), some (.int (nI T)), some (.int (nI v)), some (.int (nI j))] [] υ := by
      refine zfor F (fun j hj ihj => ?_)
      intro υ hI
      obtain ⟨i1, i2, i3, b2, hb1, hb2, hd⟩ := hI
      have kF : υ 51 0 = nI F := (congrFun (i1 51 (by omega) (by omega) (by omega)) 0).trans hF
      refine zw_iload4 hB dX6_sets_58 ?_
      refine zw_aload0 hB dX6_sets_60 ?_
      refine zw_getfR hB dX6_sets_61 zf_X6_9 rfl rfl ?_
      refine zw_iconst (x := nI 0) hB dX6_sets_64 (by decide) ?_
      refine zw_ialdV (x := nI F) hB dX6_sets_65 rfl (by omega) (by decide) (kF) ?_
      refine zw_icmp_geN (tgt := 120) hB dX6_sets_66 (by decide) (by omega) (by omega) (fun c66 => ?_) (fun c66 => ?_)
      · refine zw_aload0 hB dX6_sets_120 ?_
        refine zw_getfR hB dX6_sets_121 zf_X6_40 rfl rfl ?_
        refine zw_iload1 hB dX6_sets_124 ?_
        refine zw_bipush (x := -9) hB dX6_sets_125 (by decide) ?_
        refine zw_iastN hB dX6_sets_127 rfl (by omega) (by decide) ?_
        have r1y : zro (zC υ 61 (upd (υ 61) p (-9))) 51 = (zro σ 51) := zro_congr ((zC_n (by omega)).trans (i1 51 (by omega) (by omega) (by omega)))
        have hb1y : (zC υ 61 (upd (υ 61) p (-9))) 50 16 = zbg b2 := (congrFun (zC_n (by omega)) 16).trans hb1
        have ej : j = F := by omega
        refine zw_aload0 hB dX6_sets_128 ?_
        refine zw_iload1 hB dX6_sets_129 ?_
        refine zw_iconst (x := nI 1) hB dX6_sets_130 (by decide) ?_
        refine zw_iaddN hB dX6_sets_131 ?_
        refine zw_iload2 hB dX6_sets_132 ?_
        refine zw_iload3 hB dX6_sets_133 ?_
        refine zw_callV3 (M' := mX6_sets) hB dX6_sets_134 zl_X6_154 zg_X6_sets (zRc.of rfl rfl rfl) (ih (p + 1) T v b2 (by omega) (by omega) hT (by omega) hb2 hb1y r1y) (fun v134 σ134 hq134 => ?_)
        obtain ⟨rfl, hq⟩ := hq134
        refine zw_vret hB hR dX6_sets_137 rfl ?_
        exact ⟨rfl, zIv_end (by omega) i1 i2 i3 (by rw [ej] at hd; exact hd) hq⟩
      · refine zw_iload2 hB dX6_sets_69 ?_
        refine zw_iload4 hB dX6_sets_70 ?_
        refine zw_callS2P (M' := mX6_has) hB dX6_sets_72 zl_X6_151 zg_X6_has (s_X6_has (by omega) (by omega)) ?_
        refine zw_if_eqB (tgt := 81) hB dX6_sets_75 (by decide) (fun c75 => ?_) (fun c75 => ?_)
        · have b1 := (zcg_n (p := p) (f := j) hg (by omega)).2
          have hor := zor_lt hT c66
          have b3 := zbs_le (c := (zcg (zro σ 51))) (F := F) (P := P) (fun q i hi => (zcg_n hg (by omega)).2) k (T ||| 2 ^ j)
          refine zw_aload0 hB dX6_sets_81 ?_
          refine zw_getfR hB dX6_sets_82 zf_X6_40 rfl rfl ?_
          refine zw_iload1 hB dX6_sets_85 ?_
          refine zw_iload4 hB dX6_sets_86 ?_
          refine zw_iastN hB dX6_sets_88 rfl (by omega) (by decide) ?_
          have r1 : zro (zC υ 61 (upd (υ 61) p (nI j))) 51 = (zro σ 51) := zro_congr ((zC_n (by omega)).trans (i1 51 (by omega) (by omega) (by omega)))
          have r1x := r1
          have hb1x : (zC υ 61 (upd (υ 61) p (nI j))) 50 16 = zbg b2 := (congrFun (zC_n (by omega)) 16).trans hb1
          refine zw_aload0 hB dX6_sets_89 ?_
          refine zw_iload1 hB dX6_sets_90 ?_
          refine zw_iconst (x := nI 1) hB dX6_sets_91 (by decide) ?_
          refine zw_iaddN hB dX6_sets_92 ?_
          refine zw_iload2 hB dX6_sets_93 ?_
          refine zw_iconst (x := nI 1) hB dX6_sets_94 (by decide) ?_
          refine zw_iload4 hB dX6_sets_95 ?_
          refine zw_ishl hB dX6_sets_97 ?_
          refine zw_ior hB dX6_sets_98 ?_
          rw [zor T (by omega) j (by omega)]
          refine zw_iload3 hB dX6_sets_99 ?_
          refine zw_aload0 hB dX6_sets_100 ?_
          refine zw_getfR hB dX6_sets_101 zf_X6_9 rfl rfl ?_
          refine zw_iload1 hB dX6_sets_104 ?_
          refine zw_iload4 hB dX6_sets_105 ?_
          refine zw_callS3P (M' := mX6_growsBy) hB dX6_sets_107 zl_X6_70 zg_X6_growsBy (s_X6_growsBy (c := 51) rfl (by omega) (by rw [r1]; exact hg.kd (by omega)) _ (Or.inr ⟨j, by omega, rfl⟩)) ?_
          rw [r1, zgb_cg hg (by omega)]
          refine zw_iadd hB dX6_sets_110 ?_
          rw [nI_add]
          refine zw_callV3 (M' := mX6_sets) hB dX6_sets_111 zl_X6_154 zg_X6_sets (zRc.of rfl rfl rfl) (ih (p + 1) (T ||| 2 ^ j) (v + (zcg (zro σ 51)) p j) b2 (by omega) (by omega) hor (by omega) hb2 hb1x r1x) (fun v111 σ111 hq111 => ?_)
          obtain ⟨rfl, hq⟩ := hq111
          refine zw_iinc4 hB dX6_sets_114 (by first | exact zinc _ | rfl) (by first | rfl | assumption) ?_
          refine zw_goto (tgt := 58) hB dX6_sets_117 (by decide) ?_
          exact ihj c66 _ (zIv_take c75 i1 i2 i3 hb2 (by omega) hd hq)
        · refine zw_goto (tgt := 114) hB dX6_sets_78 (by decide) ?_
          refine zw_iinc4 hB dX6_sets_114 (by first | exact zinc _ | rfl) (by first | rfl | assumption) ?_
          refine zw_goto (tgt := 58) hB dX6_sets_117 (by decide) ?_
          exact ihj c66 _ (zIv_skip c75 ⟨i1, i2, i3, b2, hb1, hb2, hd⟩)
    refine zw_iload1 hB dX6_sets_0 ?_
    refine zw_aload0 hB dX6_sets_1 ?_
    refine zw_getfR hB dX6_sets_2 zf_X6_9 rfl rfl ?_
    refine zw_iconst (x := nI 1) hB dX6_sets_5 (by decide) ?_
    refine zw_ialdV (x := nI P) hB dX6_sets_6 rfl (by omega) (by decide) (hP) ?_
    refine zw_icmp_neN (tgt := 55) hB dX6_sets_7 (by decide) (by omega) (by omega) (fun c7 => ?_) (fun c7 => by first | exact absurd (by omega) c7 | exact absurd c7 (by omega) | omega)
    refine zw_iconst (x := nI 0) hB dX6_sets_55 (by decide) ?_
    refine zw_istore4 hB dX6_sets_56 (by first | rfl | assumption) ?_
    exact hl 0 (by omega) σ ⟨fun _ _ _ _ => rfl, fun _ _ => rfl, fun _ _ => rfl, b, hb, hb2, Or.inl ⟨rfl, rfl, fun _ _ => rfl⟩⟩
theorem s_X6_next {n : Nat} {σ : zSt} {S : zS} (hS : zOk S) (h : zRW S σ) (p : Int32) : zSem (n + 9) mX6_next [.ref 50, .int p] σ (zRQ (q_next S p) σ) := by
  obtain ⟨⟨⟨F, P, hg0⟩, y0, hy0, ey0⟩, hkp, hlt, hrw⟩ := id hS
  have hnF := hg0.nF
  have hnP := hg0.nP
  have hr0 := h.1
  have hg : zGd (zro σ 51) F P := by rw [hr0]; exact hg0
  have hF6 := hg.F6
  have hP6 := hg.P6
  have hF : σ 51 0 = nI F := (zro_k (by omega)).symm.trans hg.r0
  have hP : σ 51 1 = nI P := (zro_k (by omega)).symm.trans hg.r1
  unfold q_next
  try rw [hnF]
  try rw [hnP]
  refine zSem.of (by decide +kernel) (Nat.le_of_ble_eq_true rfl) (fun X hB hR => ?_)
  show zW X 0 [some (.ref 50), some (.int p)] [] σ
  refine zw_iload1 hB dX6_next_0 ?_
  refine zw_iconst (x := -1) hB dX6_next_1 (by decide) ?_
  refine zw_icmp_eq (tgt := 19) hB dX6_next_2 (by decide) (fun c2 => ?_) (fun c2 => ?_)
  · have hc : p = -1 ∨ zIn p P := Or.inl c2
    refine zw_aload0 hB dX6_next_19 ?_
    refine zw_iconst (x := -1) hB dX6_next_20 (by decide) ?_
    refine zw_putfI hB dX6_next_21 zfw_X6_148 rfl rfl ?_
    refine zw_aload0 hB dX6_next_24 ?_
    refine zw_iconst (x := nI 0) hB dX6_next_25 (by decide) ?_
    refine zw_iconst (x := nI 0) hB dX6_next_26 (by decide) ?_
    refine zw_iconst (x := nI 0) hB dX6_next_27 (by decide) ?_
    refine zw_callV3 (M' := mX6_sets) hB dX6_next_28 zl_X6_154 zg_X6_sets (zRc.of rfl rfl rfl) (s_X6_sets (r := (zro σ 51)) hg P (m := n + 8) 0 0 0 0 (by omega) (by omega) (by have := z2Fp F hF6; omega) (by omega) (by omega) (by rw [zC_s, zupd_s]; rfl) (zro_n (by omega))) (fun v28 σ28 hq28 => ?_)
    obtain ⟨rfl, s1, s2, s3, s4⟩ := hq28
    obtain ⟨_, w2, w3⟩ := s4.resolve_right (fun z => by omega)
    rw [Nat.zero_add] at w2
    have k50 : ∀ k, k ≠ 16 → σ28 50 k = σ 50 k := fun k hk => (s2 k hk).trans (by rw [zC_s]; exact zupd_o hk)
    have kO : ∀ d, d ≠ 50 → d ≠ 61 → d ≠ 62 → σ28 d = σ d := fun d h1 h2 h3 => (s1 d h1 h2 h3).trans (zC_n h1)
    refine zw_iload1 hB dX6_next_31 ?_
    refine zw_if_ge (tgt := 42) hB dX6_next_32 (by decide) (fun c32 => ?_) (fun c32 => ?_)
    · obtain ⟨j, hj, rfl⟩ := zIn_j (by omega) (hc.resolve_left (fun z => absurd (z ▸ c32 : (0 : Int32) ≤ -1) (by decide)))
      refine zw_aload0 hB dX6_next_42 ?_
      refine zw_getfR hB dX6_next_43 zf_X6_43 rfl rfl ?_
      refine zw_iload1 hB dX6_next_46 ?_
      refine zw_ialdV (x := zcp (zcg (zro σ 51)) F P P 0 j) hB dX6_next_47 rfl (by omega) (by decide) (by rw [w3 j hj, if_neg (by omega)]) ?_
      refine zw_iret hB hR dX6_next_48 rfl ?_
      refine zRQ.ok h (if_pos hc) ?_ ⟨k50 6 (by omega), k50 10 (by omega), k50 11 (by omega)⟩ (fun c hc => kO c (by omega) (by omega) (by omega))
      rw [if_neg (nI_n1 (by omega)), nI_clamp (by omega), ← hr0]
    · refine zw_aload0 hB dX6_next_35 ?_
      refine zw_getfV (x := nI (zbs (zcg (zro σ 51)) F P P 0)) hB dX6_next_36 zf_X6_148 rfl rfl (w2.trans (zbg_s _)) ?_
      refine zw_goto (tgt := 48) hB dX6_next_39 (by decide) ?_
      refine zw_iret hB hR dX6_next_48 rfl ?_
      refine zRQ.ok h (if_pos hc) ?_ ⟨k50 6 (by omega), k50 10 (by omega), k50 11 (by omega)⟩ (fun c hc => kO c (by omega) (by omega) (by omega))
      rw [if_pos (hc.resolve_right (fun z => c32 (Int32.not_lt.mp z.1))), ← hr0]
  · refine zw_aload0 hB dX6_next_5 ?_
    refine zw_iload1 hB dX6_next_6 ?_
    refine zw_callV1P (M' := mX6_isFarmer) hB dX6_next_7 zl_X6_113 zg_X6_isFarmer (zRc.of rfl rfl rfl) (s_X6_isFarmer hP hP6 _) ?_
    refine zw_if_neB (tgt := 19) hB dX6_next_10 (by decide) (fun c10 => ?_) (fun c10 => ?_)
    · have hc : p = -1 ∨ zIn p P := Or.inr c10
      refine zw_aload0 hB dX6_next_19 ?_
      refine zw_iconst (x := -1) hB dX6_next_20 (by decide) ?_
      refine zw_putfI hB dX6_next_21 zfw_X6_148 rfl rfl ?_
      refine zw_aload0 hB dX6_next_24 ?_
      refine zw_iconst (x := nI 0) hB dX6_next_25 (by decide) ?_
      refine zw_iconst (x := nI 0) hB dX6_next_26 (by decide) ?_
      refine zw_iconst (x := nI 0) hB dX6_next_27 (by decide) ?_
      refine zw_callV3 (M' := mX6_sets) hB dX6_next_28 zl_X6_154 zg_X6_sets (zRc.of rfl rfl rfl) (s_X6_sets (r := (zro σ 51)) hg P (m := n + 8) 0 0 0 0 (by omega) (by omega) (by have := z2Fp F hF6; omega) (by omega) (by omega) (by rw [zC_s, zupd_s]; rfl) (zro_n (by omega))) (fun v28 σ28 hq28 => ?_)
      obtain ⟨rfl, s1, s2, s3, s4⟩ := hq28
      obtain ⟨_, w2, w3⟩ := s4.resolve_right (fun z => by omega)
      rw [Nat.zero_add] at w2
      have k50 : ∀ k, k ≠ 16 → σ28 50 k = σ 50 k := fun k hk => (s2 k hk).trans (by rw [zC_s]; exact zupd_o hk)
      have kO : ∀ d, d ≠ 50 → d ≠ 61 → d ≠ 62 → σ28 d = σ d := fun d h1 h2 h3 => (s1 d h1 h2 h3).trans (zC_n h1)
      refine zw_iload1 hB dX6_next_31 ?_
      refine zw_if_ge (tgt := 42) hB dX6_next_32 (by decide) (fun c32 => ?_) (fun c32 => ?_)
      · obtain ⟨j, hj, rfl⟩ := zIn_j (by omega) (hc.resolve_left (fun z => absurd (z ▸ c32 : (0 : Int32) ≤ -1) (by decide)))
        refine zw_aload0 hB dX6_next_42 ?_
        refine zw_getfR hB dX6_next_43 zf_X6_43 rfl rfl ?_
        refine zw_iload1 hB dX6_next_46 ?_
        refine zw_ialdV (x := zcp (zcg (zro σ 51)) F P P 0 j) hB dX6_next_47 rfl (by omega) (by decide) (by rw [w3 j hj, if_neg (by omega)]) ?_
        refine zw_iret hB hR dX6_next_48 rfl ?_
        refine zRQ.ok h (if_pos hc) ?_ ⟨k50 6 (by omega), k50 10 (by omega), k50 11 (by omega)⟩ (fun c hc => kO c (by omega) (by omega) (by omega))
        rw [if_neg (nI_n1 (by omega)), nI_clamp (by omega), ← hr0]
      · refine zw_aload0 hB dX6_next_35 ?_
        refine zw_getfV (x := nI (zbs (zcg (zro σ 51)) F P P 0)) hB dX6_next_36 zf_X6_148 rfl rfl (w2.trans (zbg_s _)) ?_
        refine zw_goto (tgt := 48) hB dX6_next_39 (by decide) ?_
        refine zw_iret hB hR dX6_next_48 rfl ?_
        refine zRQ.ok h (if_pos hc) ?_ ⟨k50 6 (by omega), k50 10 (by omega), k50 11 (by omega)⟩ (fun c hc => kO c (by omega) (by omega) (by omega))
        rw [if_pos (hc.resolve_right (fun z => c32 (Int32.not_lt.mp z.1))), ← hr0]
    · refine zw_aload0 hB dX6_next_13 ?_
      refine zw_iconst (x := -1) hB dX6_next_14 (by decide) ?_
      refine zw_callV1 (M' := mX6_no) hB dX6_next_15 zl_X6_48 zg_X6_no (zRc.of rfl rfl rfl) (s_X6_no (k := 1) _ (by decide) (by omega)) (fun v15 σ15 hq15 => ?_)
      obtain ⟨rfl, rfl⟩ := hq15
      refine zw_iret hB hR dX6_next_18 rfl ?_
      rw [show znb (p = -1 ∨ zIn p P) = -1 from if_neg (fun z => z.elim c2 c10)]
      exact zRQ.no h (by decide) (by omega) (by decide)
