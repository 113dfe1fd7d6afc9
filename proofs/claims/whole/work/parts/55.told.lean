/-! LETTERS: statements, what they do; the class's second pass -/
theorem zfst_n {p : Nat → Bool} : ∀ k i, zfst p i k = none → ∀ j, i ≤ j → j < i + k → ¬ p j = true := by
  intro k
  induction k with
  | zero => intro i _ j h1 h2; exact absurd h2 (by omega)
  | succ k ih =>
    intro i h j h1 h2
    unfold zfst at h
    by_cases c : p i = true
    · rw [if_pos c] at h; cases h
    · rw [if_neg c] at h
      by_cases e : j = i
      · rw [e]; exact c
      · exact ih (i + 1) h j (by omega) (by omega)
def zsb (g : Nat → Nat) (L b s k : Nat) : Bool := decide (L ≤ b + 1 + k ∨ ¬ zft (g (b + 1 + k)) (zsg s k) = true)
/-- the fault in the statement at b -/
def zsx (g : Nat → Nat) (L b : Nat) : Option Nat := if L ≤ b then some b else if zsh (g b) = 0 then some b else (zfst (zsb g L b (zsh (g b))) 0 (zln (zsh (g b)))).map (fun k => b + 1 + k)
theorem zsx_no {g : Nat → Nat} {L b : Nat} (h : zsx g L b = none) : b < L ∧ ¬ zsh (g b) = 0 ∧ ∀ k, k < zln (zsh (g b)) → b + 1 + k < L ∧ zft (g (b + 1 + k)) (zsg (zsh (g b)) k) = true := by
  unfold zsx at h
  by_cases c1 : L ≤ b
  · rw [if_pos c1] at h; cases h
  · rw [if_neg c1] at h
    by_cases c2 : zsh (g b) = 0
    · rw [if_pos c2] at h; cases h
    · rw [if_neg c2] at h
      refine ⟨by omega, c2, fun k hk => ?_⟩
      have h3 := zfst_n _ _ (Option.map_eq_none_iff.mp h) k (by omega) (by omega)
      unfold zsb at h3
      rw [decide_eq_true_eq] at h3
      exact ⟨Nat.lt_of_not_le fun z => h3 (Or.inl z), Decidable.of_not_not fun z => h3 (Or.inr z)⟩
theorem zft_d {c : Nat} (h : zft c 100 = true) : 48 ≤ c ∧ c ≤ 57 := by
  unfold zft at h
  rw [if_pos rfl, decide_eq_true_eq] at h
  exact h
theorem zft_k {c : Nat} (h : zft c 107 = true) : ∃ k, k < 6 ∧ zkl c = nI k := by
  unfold zft at h
  rw [if_neg (by decide), if_pos rfl, decide_eq_true_eq] at h
  rcases zkl_n (c := c) with e | e
  · rw [e] at h; exact absurd (by decide) h
  · exact e
/-- where the next statement begins -/
def znx (g : Nat → Nat) (b : Nat) : Nat := b + 1 + zln (zsh (g b))
def zpf (g : Nat → Nat) (L : Nat) : Nat → Nat → Option Nat
  | 0, b => some b
  | n + 1, b => match zsx g L b with
    | some q => some q
    | none => if znx g b < L then zpf g L n (znx g b) else none
def zn2 (g : Nat → Nat) (i : Nat) : Nat := 10 * (g i - 48) + (g (i + 1) - 48)
def zdF (g : Nat → Nat) (b : Nat) (r : zRw) : Option zRw := if zNF r < 6 ∧ zn2 g (b + 1) ≤ 30 ∧ zn2 g (b + 3) ≤ 30 ∧ zn2 g (b + 5) ≤ 30 then some (zAf r (nI (zn2 g (b + 1))) (nI (zn2 g (b + 3))) (nI (zn2 g (b + 5)))) else none
def zdP (g : Nat → Nat) (b : Nat) (r : zRw) : Option zRw := if zNP r < 6 then some (zAp r (zkl (g (b + 1))) (nI (g (b + 2) - 48))) else none
def zdA (p f : Nat) (r : zRw) : Option zRw := if p < zNP r ∧ f < zNF r then some (zSt1 r p f) else none
def zdO (p : Nat) (r : zRw) : Option zRw := if p < zNP r then some (upd r (26 + 4 * p) (-9)) else none
def zdH (f s v : Nat) (r : zRw) : Option zRw := if f < zNF r ∧ s < 3 ∧ v ≤ 30 then some (upd r (5 + 3 * f + s) (nI v)) else none
def zdS (v : Nat) (r : zRw) : Option zRw := if v ≤ 5 then some (upd r 2 (nI v)) else none
def zdY (n : Nat) (r : zRw) : Option zRw := if 1 ≤ n ∧ n ≤ 60 ∧ (r 4).toNatClampNeg + n ≤ 999 then some (zYs r n) else none
def zdo (g : Nat → Nat) (b : Nat) (r : zRw) : Option zRw :=
  if g b = 102 then zdF g b r else if g b = 112 then zdP g b r else if g b = 97 then zdA (g (b + 1) - 48) (g (b + 2) - 48) r else if g b = 111 then zdO (g (b + 1) - 48) r else if g b = 104 then zdH (g (b + 1) - 48) (g (b + 2) - 48) (zn2 g (b + 3)) r else if g b = 115 then zdS (g (b + 1) - 48) r else zdY (zn2 g (b + 1)) r
/-- the second pass: the answer, the land -/
def zxr (g : Nat → Nat) (L : Nat) : Nat → Nat → Nat → zRw → Option Nat × Nat × zRw
  | 0, _, m, r => (none, m, r)
  | n + 1, b, m, r => match zdo g b r with
    | none => (some b, m, r)
    | some r' => if znx g b < L then zxr g L n (znx g b) (m + 1) r' else (none, m + 1, r')
def zxa (x : Option Nat × Nat × zRw) : Int32 := match x.1 with | none => nI x.2.1 | some b => -2000 - nI b
/-- land told, over land r with letters l: the answer, the land then -/
def zla (l : List Int32) (r : zRw) : Int32 × zRw := match zpf (zlc l) l.length (l.length + 1) 0 with
  | some q => (-1000 - nI q, r)
  | none => let x := zxr (zlc l) l.length (l.length + 1) 0 0 r; (zxa x, match x.1 with | none => x.2.2 | some _ => r)
def q_land (S : zS) : Value × zS := (.int (zla S.2.2.1 S.1).1, ((zla S.2.2.1 S.1).2, S.2.1, [], S.2.2.2))
theorem zsh_of {c : Nat} (h : ¬ zsh c = 0) : c = 102 ∨ c = 112 ∨ c = 97 ∨ c = 111 ∨ c = 104 ∨ c = 115 ∨ c = 121 := by
  unfold zsh at h
  by_cases c1 : c = 102
  · exact Or.inl c1
  · by_cases c2 : c = 112
    · exact Or.inr (Or.inl c2)
    · by_cases c3 : c = 97 ∨ c = 121
      · omega
      · by_cases c4 : c = 111 ∨ c = 115
        · omega
        · by_cases c5 : c = 104
          · omega
          · rw [if_neg c1, if_neg c2, if_neg c3, if_neg c4, if_neg c5] at h
            exact absurd rfl h
/-! first pass: the machine's states and the statements -/
theorem zcm_in {g : Nat → Nat} {L b s : Nat} (hs : s < 7) (hL : 0 < L) (hb : b < L) : ∀ d j, j + d = zln s → b + 1 + j ≤ L → zcm g L (L - (b + 1 + j)) s j = match zfst (zsb g L b s) j d with
    | some i => some (b + 1 + i)
    | none => if b + 1 + zln s < L then zcm g L (L - (b + 1 + zln s)) s (zln s) else none := by
  intro d
  induction d with
  | zero =>
    intro j hj hjL
    have hj : j = zln s := by omega
    rw [hj]
    show _ = if b + 1 + zln s < L then _ else none
    by_cases c : b + 1 + zln s < L
    · rw [if_pos c]
    · rw [if_neg c, show L - (b + 1 + zln s) = 0 by omega]
      show (if L = 0 ∨ zln s < zln s then some L else none) = none
      rw [if_neg (by omega)]
  | succ d ih =>
    intro j hj hjL
    by_cases c : L ≤ b + 1 + j
    · have e1 : zfst (zsb g L b s) j (d + 1) = some j := by
        show (if zsb g L b s j = true then some j else _) = _
        rw [if_pos (show zsb g L b s j = true from decide_eq_true (Or.inl c))]
      rw [e1, show L - (b + 1 + j) = 0 by omega]
      show (if L = 0 ∨ j < zln s then some L else none) = some (b + 1 + j)
      rw [if_pos (by omega), show b + 1 + j = L by omega]
    · obtain ⟨k, hk⟩ : ∃ k, L - (b + 1 + j) = k + 1 := ⟨L - (b + 1 + j) - 1, by omega⟩
      have ek : L - (k + 1) = b + 1 + j := by omega
      rw [hk]
      show (if j = zln s then _ else if zft (g (L - (k + 1))) (zsg s j) = true then zcm g L k s (j + 1) else some (L - (k + 1))) = _
      rw [if_neg (by omega), ek]
      by_cases f : zft (g (b + 1 + j)) (zsg s j) = true
      · rw [if_pos f]
        have e1 : zfst (zsb g L b s) j (d + 1) = zfst (zsb g L b s) (j + 1) d := by
          show (if zsb g L b s j = true then some j else _) = _
          rw [if_neg]
          unfold zsb
          rw [decide_eq_true_eq]
          rintro (z | z)
          · exact c z
          · exact z f
        rw [e1, ← ih (j + 1) (by omega) (by omega), show L - (b + 1 + (j + 1)) = k by omega]
      · rw [if_neg f]
        have e1 : zfst (zsb g L b s) j (d + 1) = some j := by
          show (if zsb g L b s j = true then some j else _) = _
          rw [if_pos (show zsb g L b s j = true from decide_eq_true (Or.inr f))]
        rw [e1]
theorem zcm_st {g : Nat → Nat} {L : Nat} : ∀ n b s, b < L → L - b ≤ n → s < 7 → zcm g L (L - b) s (zln s) = zpf g L n b := by
  intro n
  induction n with
  | zero => intro b s hb h _; omega
  | succ n ih =>
    intro b s hb h hs
    obtain ⟨k, hk⟩ : ∃ k, L - b = k + 1 := ⟨L - b - 1, by omega⟩
    have ek : L - (k + 1) = b := by omega
    have hz6 := zsh_lt (g b)
    rw [hk]
    show (if zln s = zln s then (if zsh (g (L - (k + 1))) = 0 then some (L - (k + 1)) else zcm g L k (zsh (g (L - (k + 1)))) 0) else _) = _
    rw [if_pos rfl, ek]
    show _ = match zsx g L b with | some q => some q | none => if znx g b < L then zpf g L n (znx g b) else none
    unfold zsx
    rw [if_neg (show ¬ L ≤ b by omega)]
    by_cases c : zsh (g b) = 0
    · rw [if_pos c, if_pos c]
    · rw [if_neg c, if_neg c]
      have e1 := zcm_in (g := g) (L := L) (b := b) (s := zsh (g b)) (by omega) (by omega) hb (zln (zsh (g b))) 0 (by omega) (by omega)
      rw [show L - (b + 1 + 0) = k by omega] at e1
      rw [e1]
      cases hq : zfst (zsb g L b (zsh (g b))) 0 (zln (zsh (g b))) with
      | some i => rfl
      | none =>
        show (if b + 1 + zln (zsh (g b)) < L then _ else none) = if znx g b < L then _ else none
        by_cases d : b + 1 + zln (zsh (g b)) < L
        · rw [if_pos d, if_pos (show znx g b < L from d)]
          exact ih _ _ d (by omega) (by omega)
        · rw [if_neg d, if_neg (show ¬ znx g b < L from d)]
theorem zcm_0 {g : Nat → Nat} {L : Nat} : zcm g L L 0 0 = zpf g L (L + 1) 0 := by
  rcases Nat.eq_zero_or_pos L with h | h
  · subst h; rfl
  · have := zcm_st (g := g) (L := L) (L + 1) 0 0 h (by omega) (by omega)
    rw [Nat.sub_zero] at this
    exact this
/-! what a statement leaves is land -/
theorem zYr_4 {r : zRw} {F P : Nat} (h : zGd r F P) : zYr r 4 = r 4 + nI 1 := by
  have hF := h.F6
  have g4 := zGd_4 h (r 4 + nI 1)
  unfold zYr zYw zMv
  rw [if_neg (by omega), zU_o (by omega), zupd_o (by omega), h.nP, (zTn_static g4 (Nat.le_refl _)).1 4 (by omega), zupd_s]
theorem zYs_4 {r : zRw} {F P y : Nat} (h : zGd r F P) (hy : r 4 = nI y) : ∀ n, zYs r n 4 = nI (y + n) := by
  intro n
  induction n with
  | zero => exact hy
  | succ n ih =>
    show zYr (zYs r n) 4 = _
    rw [zYr_4 (zGd_Ys h n), ih, nI_add]; rfl
theorem zGd_Af {r : zRw} {F P x y z : Nat} (h : zGd r F P) (hF6 : F < 6) (hx : x ≤ 30) (hy : y ≤ 30) (hz : z ≤ 30) : zGd (zAf r (nI x) (nI y) (nI z)) (F + 1) P := by
  have hP := h.P6
  have o : ∀ k, k ≠ 0 → ¬ (5 + 3 * F ≤ k ∧ k < 8 + 3 * F) → zAf r (nI x) (nI y) (nI z) k = r k := fun k h1 h2 => by
    unfold zAf
    rw [if_neg h1, h.nF, if_neg (by omega), if_neg (by omega), if_neg (by omega)]
  refine ⟨by omega, h.2.1, by unfold zAf; rw [if_pos rfl, h.nF], (o 1 (by omega) (by omega)).trans h.r1, by rw [o 2 (by omega) (by omega)]; exact h.r2, by rw [o 3 (by omega) (by omega)]; exact h.r3, fun k hk => ?_, fun p hp => ?_, fun p q hp hq hne e => ?_, fun k hk => by rw [o k (by omega) (by omega)]; exact h.out hk⟩
  · by_cases c : 5 + 3 * F ≤ 5 + k ∧ 5 + k < 8 + 3 * F
    · unfold zAf
      rw [if_neg (by omega), h.nF]
      by_cases c1 : 5 + k = 5 + 3 * F
      · rw [if_pos c1]; exact ⟨x, hx, rfl⟩
      · rw [if_neg c1]
        by_cases c2 : 5 + k = 5 + 3 * F + 1
        · rw [if_pos c2]; exact ⟨y, hy, rfl⟩
        · rw [if_neg c2, if_pos (by omega)]; exact ⟨z, hz, rfl⟩
    · rw [o _ (by omega) c]; exact h.ht hk
  · rw [o _ (by omega) (by omega), o _ (by omega) (by omega), o _ (by omega) (by omega), o _ (by omega) (by omega)]
    obtain ⟨a1, a2, a3, a4⟩ := h.2.2.2.2.2.2.2.1 p hp
    exact ⟨a1, a2, a3, a4.imp id (fun ⟨f, q1, q2⟩ => ⟨f, by omega, q2⟩)⟩
  · rw [o _ (by omega) (by omega), o _ (by omega) (by omega)] at e
    rw [o _ (by omega) (by omega)]
    exact h.2.2.2.2.2.2.2.2.1 p q hp hq hne e
theorem zGd_Ap {r : zRw} {F P k v : Nat} (h : zGd r F P) (hP6 : P < 6) (hk : k < 6) (hv : v < 10) : zGd (zAp r (nI k) (nI v)) F (P + 1) := by
  have hF := h.F6
  have o : ∀ j, j ≠ 1 → ¬ (23 + 4 * P ≤ j ∧ j < 27 + 4 * P) → zAp r (nI k) (nI v) j = r j := fun j h1 h2 => by
    unfold zAp
    rw [if_neg h1, h.nP, if_neg (by omega), if_neg (by omega), if_neg (by omega), if_neg (by omega)]
  have e0 : zAp r (nI k) (nI v) (23 + 4 * P) = nI k := by unfold zAp; rw [if_neg (by omega), h.nP, if_pos rfl]
  have e1 : zAp r (nI k) (nI v) (24 + 4 * P) = nI v := by unfold zAp; rw [if_neg (by omega), h.nP, if_neg (by omega), if_pos rfl]
  have e2 : zAp r (nI k) (nI v) (25 + 4 * P) = nI 0 := by unfold zAp; rw [if_neg (by omega), h.nP, if_neg (by omega), if_neg (by omega), if_pos rfl]
  have e3 : zAp r (nI k) (nI v) (26 + 4 * P) = -9 := by unfold zAp; rw [if_neg (by omega), h.nP, if_neg (by omega), if_neg (by omega), if_neg (by omega), if_pos rfl]
  refine ⟨h.1, by omega, (o 0 (by omega) (by omega)).trans h.r0, by unfold zAp; rw [if_pos rfl, h.nP], by rw [o 2 (by omega) (by omega)]; exact h.r2, by rw [o 3 (by omega) (by omega)]; exact h.r3, fun j hj => by rw [o _ (by omega) (by omega)]; exact h.ht hj, fun p hp => ?_, fun p q hp hq hne e => ?_, fun j hj => by rw [o j (by omega) (by omega)]; exact h.out hj⟩
  · by_cases c : p = P
    · rw [c, e0, e1, e2, e3]
      exact ⟨⟨k, hk, rfl⟩, ⟨v, hv, rfl⟩, ⟨0, by omega, rfl⟩, Or.inl rfl⟩
    · rw [o _ (by omega) (by omega), o _ (by omega) (by omega), o _ (by omega) (by omega), o _ (by omega) (by omega)]
      exact h.2.2.2.2.2.2.2.1 p (by omega)
  · by_cases c : p = P
    · rw [c]; exact e3
    · rw [o (26 + 4 * p) (by omega) (by omega)] at e ⊢
      by_cases d : q = P
      · rw [d, e3] at e; exact e
      · rw [o _ (by omega) (by omega)] at e
        exact h.2.2.2.2.2.2.2.2.1 p q (by omega) (by omega) hne e
theorem zGd_hs {r : zRw} {F P f s v : Nat} (h : zGd r F P) (hf : f < 6) (hs : s < 3) (hv : v ≤ 30) : zGd (upd r (5 + 3 * f + s) (nI v)) F P := by
  have o : ∀ k, k ≠ 5 + 3 * f + s → upd r (5 + 3 * f + s) (nI v) k = r k := fun k hk => zupd_o hk
  refine h.ofS (fun k hk => o k (by omega)) (by rw [o 3 (by omega)]; exact h.r3) (fun k hk => ?_) (fun p hp => ⟨o _ (by omega), o _ (by omega)⟩) (fun p hp => by rw [o _ (by omega)]; exact h.td hp) (fun p hp => o _ (by omega)) (fun k hk => by rw [o k (by omega)]; exact h.out hk)
  by_cases e : 5 + k = 5 + 3 * f + s
  · rw [e, zupd_s]; exact ⟨v, hv, rfl⟩
  · rw [o _ e]; exact h.ht hk
theorem zLn.y {r r' : zRw} {F P : Nat} (h : zLn r) (g : zGd r' F P) (e : r' 4 = r 4) : zLn r' := ⟨⟨F, P, g⟩, by rw [e]; exact h.2⟩
theorem zdo_ok {g : Nat → Nat} {L b : Nat} {r r' : zRw} (h : zLn r) (hs : zsx g L b = none) (e : zdo g b r = some r') : zLn r' := by
  obtain ⟨⟨F, P, hg⟩, y, hy, ey⟩ := id h
  obtain ⟨hb, hz, hk⟩ := zsx_no hs
  have hF6 := hg.F6
  have hP6 := hg.P6
  unfold zdo at e
  by_cases q1 : g b = 102
  · rw [if_pos q1] at e
    unfold zdF at e
    rw [hg.nF] at e
    split at e
    case isFalse => cases e
    case isTrue c =>
      cases e
      exact h.y (zGd_Af hg c.1 c.2.1 c.2.2.1 c.2.2.2) (by unfold zAf; rw [if_neg (by omega), hg.nF, if_neg (by omega), if_neg (by omega), if_neg (by omega)])
  · rw [if_neg q1] at e
    by_cases q2 : g b = 112
    · rw [if_pos q2] at e
      unfold zdP at e
      rw [hg.nP] at e
      have k1 := hk 0 (by rw [q2]; decide)
      have k2 := hk 1 (by rw [q2]; decide)
      rw [q2] at k1 k2
      obtain ⟨k, hk6, ek⟩ := zft_k (c := g (b + 1)) k1.2
      have d2 := zft_d (c := g (b + 2)) k2.2
      split at e
      case isFalse => cases e
      case isTrue c =>
        cases e
        rw [ek]
        exact h.y (zGd_Ap hg c hk6 (by omega)) (by unfold zAp; rw [if_neg (by omega), hg.nP, if_neg (by omega), if_neg (by omega), if_neg (by omega), if_neg (by omega)])
    · rw [if_neg q2] at e
      by_cases q3 : g b = 97
      · rw [if_pos q3] at e
        unfold zdA at e
        rw [hg.nF, hg.nP] at e
        split at e
        case isFalse => cases e
        case isTrue c =>
          cases e
          exact h.y (zGd_St hg c.1 c.2) (by unfold zSt1; rw [if_neg (by omega), if_neg (by omega)])
      · rw [if_neg q3] at e
        by_cases q4 : g b = 111
        · rw [if_pos q4] at e
          unfold zdO at e
          rw [hg.nP] at e
          split at e
          case isFalse => cases e
          case isTrue c =>
            cases e
            exact h.y (zGd_none hg c) (zupd_o (by omega))
        · rw [if_neg q4] at e
          by_cases q5 : g b = 104
          · rw [if_pos q5] at e
            unfold zdH at e
            rw [hg.nF] at e
            split at e
            case isFalse => cases e
            case isTrue c =>
              cases e
              exact h.y (zGd_hs hg (by omega) c.2.1 c.2.2) (zupd_o (by omega))
          · rw [if_neg q5] at e
            by_cases q6 : g b = 115
            · rw [if_pos q6] at e
              unfold zdS at e
              split at e
              case isFalse => cases e
              case isTrue c =>
                cases e
                exact h.y (zGd_step hg c) (zupd_o (by omega))
            · rw [if_neg q6] at e
              unfold zdY at e
              rw [ey, nI_clamp (by omega)] at e
              split at e
              case isFalse => cases e
              case isTrue c =>
                cases e
                exact ⟨⟨F, P, zGd_Ys hg _⟩, y + zn2 g (b + 1), c.2.2, zYs_4 hg ey _⟩

