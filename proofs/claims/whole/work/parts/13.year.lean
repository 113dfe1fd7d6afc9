/-! YEARS keep land land -/
section zGY
variable {r : zRw} {F P : Nat}
theorem zGd.of {r' : zRw} (h : zGd r F P) (h0 : ∀ k, k < 3 → r' k = r k) (h3 : ∃ t, t ≤ 9999 ∧ r' 3 = nI t) (hh : ∀ k, k < 18 → ∃ t, t ≤ 30 ∧ r' (5 + k) = nI t) (hs : ∀ p, p < P → r' (23 + 4 * p) = r (23 + 4 * p) ∧ r' (24 + 4 * p) = r (24 + 4 * p))
    (ht : ∀ p, p < P → ∃ t, t ≤ 20 ∧ r' (25 + 4 * p) = nI t) (ha : ∀ p, p < P → r' (26 + 4 * p) = -9 ∨ ∃ f, f < F ∧ r' (26 + 4 * p) = nI f) (hi : ∀ p q, p < P → q < P → p ≠ q → r' (26 + 4 * p) = r' (26 + 4 * q) → r' (26 + 4 * p) = -9) (ho : ∀ k, 47 ≤ k → r' k = 0) : zGd r' F P := by
  refine ⟨h.1, h.2.1, (h0 0 (by omega)).trans h.r0, (h0 1 (by omega)).trans h.r1, ?_, h3, hh, fun p hp => ⟨?_, ?_, ht p hp, ha p hp⟩, hi, ho⟩
  · rw [h0 2 (by omega)]; exact h.r2
  · rw [(hs p hp).1]; exact (h.2.2.2.2.2.2.2.1 p hp).1
  · rw [(hs p hp).2]; exact (h.2.2.2.2.2.2.2.1 p hp).2.1
/-- the same, where nobody is moved -/
theorem zGd.ofS {r' : zRw} (h : zGd r F P) (h0 : ∀ k, k < 3 → r' k = r k) (h3 : ∃ t, t ≤ 9999 ∧ r' 3 = nI t) (hh : ∀ k, k < 18 → ∃ t, t ≤ 30 ∧ r' (5 + k) = nI t) (hs : ∀ p, p < P → r' (23 + 4 * p) = r (23 + 4 * p) ∧ r' (24 + 4 * p) = r (24 + 4 * p))
    (ht : ∀ p, p < P → ∃ t, t ≤ 20 ∧ r' (25 + 4 * p) = nI t) (ha : ∀ p, p < P → r' (26 + 4 * p) = r (26 + 4 * p)) (ho : ∀ k, 47 ≤ k → r' k = 0) : zGd r' F P :=
  h.of h0 h3 hh hs ht (fun p hp => by rw [ha p hp]; exact h.at' hp) (fun p q hp hq hne e => by rw [ha p hp, ha q hq] at e; rw [ha p hp]; exact h.2.2.2.2.2.2.2.2.1 p q hp hq hne e) ho
theorem zGd.out (h : zGd r F P) {k : Nat} (hk : 47 ≤ k) : r k = 0 := h.2.2.2.2.2.2.2.2.2 k hk
theorem zGd.sf6 (h : zGd r F P) {p : Nat} (hp : p < P) (hw : zwk r p = true) : zsf r p < F ∧ zat r p = nI (zsf r p) := by
  rcases h.seat hp with ⟨-, x⟩ | ⟨x, y, -⟩
  · exact absurd x (zwk_iff.mp hw).1
  · exact ⟨y, x⟩
theorem zGd_T (h : zGd r F P) {p : Nat} (hp : p < P) : zGd (zT r p) F P := by
  have hF := h.F6
  have hP := h.P6
  have o : ∀ k, (k < 5 ∨ 23 ≤ k) → k ≠ 25 + 4 * p → zT r p k = r k := fun k hk hk2 => zT_o hk2 (fun q => by have := (h.sf6 hp q).1; omega)
  refine h.ofS (fun k hk => o k (by omega) (by omega)) (by rw [o 3 (by omega) (by omega)]; exact h.r3) (fun k hk => ?_) (fun q hq => ⟨o _ (by omega) (by omega), o _ (by omega) (by omega)⟩) (fun q hq => ?_) (fun q hq => o _ (by omega) (by omega)) (fun k hk => by rw [o k (by omega) (by omega)]; exact h.out hk)
  · by_cases hw : zwk r p = true
    · rw [zT_kw hw, if_neg (by omega)]
      by_cases c : 5 + 3 * zsf r p ≤ 5 + k ∧ 5 + k < 8 + 3 * zsf r p
      · rw [if_pos c]; exact zhd_b (by omega)
      · rw [if_neg c]; exact h.ht hk
    · rw [zT_kn hw, if_neg (by omega)]; exact h.ht hk
  · by_cases e : q = p
    · subst e
      by_cases hw : zwk r q = true
      · rw [zT_kw hw, if_pos rfl]; exact zhd_b (by omega)
      · rw [zT_kn hw, if_pos rfl]; exact zhd_b (by omega)
    · rw [o _ (by omega) (by omega)]; exact h.td hq
theorem zGd_Tn (h : zGd r F P) {i : Nat} (hi : i ≤ P) : zGd (zTn r i) F P := by
  induction i with
  | zero => exact h
  | succ i ih => exact zGd_T (ih (by omega)) (by omega)
theorem zGd_U (h : zGd r F P) : zGd (zU r) F P := by
  have hF := h.F6
  have o : ∀ k, (k < 5 ∨ 23 ≤ k) → zU r k = r k := fun k hk => zU_static h hk
  refine h.ofS (fun k hk => o k (by omega)) (by rw [o 3 (by omega)]; exact h.r3) (fun k hk => ?_) (fun q hq => ⟨o _ (by omega), o _ (by omega)⟩) (fun q hq => by rw [o _ (by omega)]; exact h.td hq) (fun q hq => o _ (by omega)) (fun k hk => by rw [o k (by omega)]; exact h.out hk)
  unfold zU
  by_cases c : 5 ≤ 5 + k ∧ 5 + k < 5 + 3 * zNF r ∧ zfr r ((5 + k - 5) / 3) = true
  · rw [if_pos c]; exact zhd_b (by omega)
  · rw [if_neg c]; exact h.ht hk
theorem zupd_o {r : zRw} {k j : Nat} {x : Int32} (h : j ≠ k) : upd r k x j = r j := by unfold upd; rw [if_neg h]
theorem zupd_s {r : zRw} {k : Nat} {x : Int32} : upd r k x k = x := by unfold upd; rw [if_pos rfl]
theorem zGd_4 (h : zGd r F P) (x : Int32) : zGd (upd r 4 x) F P := by
  have o : ∀ k, k ≠ 4 → upd r 4 x k = r k := fun k hk => zupd_o hk
  exact h.ofS (fun k hk => o k (by omega)) (by rw [o 3 (by omega)]; exact h.r3) (fun k hk => by rw [o _ (by omega)]; exact h.ht hk) (fun q hq => ⟨o _ (by omega), o _ (by omega)⟩) (fun q hq => by rw [o _ (by omega)]; exact h.td hq) (fun q hq => o _ (by omega)) (fun k hk => by rw [o k (by omega)]; exact h.out hk)
theorem zGd_3 (h : zGd r F P) {x : Int32} (hx : ∃ t, t ≤ 9999 ∧ x = nI t) : zGd (upd r 3 x) F P := by
  have o : ∀ k, k ≠ 3 → upd r 3 x k = r k := fun k hk => zupd_o hk
  exact h.ofS (fun k hk => o k (by omega)) (by rw [zupd_s]; exact hx) (fun k hk => by rw [o _ (by omega)]; exact h.ht hk) (fun q hq => ⟨o _ (by omega), o _ (by omega)⟩) (fun q hq => by rw [o _ (by omega)]; exact h.td hq) (fun q hq => o _ (by omega)) (fun k hk => by rw [o k (by omega)]; exact h.out hk)
/-- where p is behind the moving -/
def zmv (r : zRw) (p : Nat) : Int32 := if zat r p < 0 then zat r p else zat r p + r 2 - (zat r p + r 2) / r 0 * r 0
theorem zMv_at (h : zGd r F P) {p : Nat} (hp : p < P) : zat (zMv r) p = zmv r p := by
  unfold zat zMv zmv
  by_cases c : r (26 + 4 * p) < 0
  · rw [if_neg (fun q => q.2.2.2 c), zat, if_pos c]
  · rw [if_pos ⟨by omega, by rw [h.nP]; omega, by omega, c⟩, zat, if_neg c]
theorem zMv_o (h : zGd r F P) {k : Nat} (hk : ∀ p, p < P → k ≠ 26 + 4 * p) : zMv r k = r k := by
  unfold zMv
  rw [if_neg]
  rintro ⟨h1, h2, h3, -⟩
  rw [h.nP] at h2
  exact hk ((k - 26) / 4) (by omega) (by omega)
theorem zmv_n (h : zGd r F P) {p : Nat} (hp : p < P) : (zat r p = -9 ∧ zmv r p = -9) ∨ ∃ t, t ≤ 5 ∧ r 2 = nI t ∧ zat r p = nI (zsf r p) ∧ zsf r p < F ∧ zmv r p = nI ((zsf r p + t) % F) := by
  have hF := h.F6
  rcases h.seat hp with ⟨x, y⟩ | ⟨x, y, z⟩
  · exact Or.inl ⟨x, by unfold zmv; rw [if_pos y, x]⟩
  · obtain ⟨t, ht, e⟩ := h.r2
    refine Or.inr ⟨t, ht, e, x, y, ?_⟩
    unfold zmv
    rw [if_neg z, x, e, h.r0, nI_add, pk_rem (by omega) (by omega) (by omega)]
theorem zGd_Mv (h : zGd r F P) : zGd (zMv r) F P := by
  have hF := h.F6
  have hP := h.P6
  have o : ∀ k, (∀ p, p < P → k ≠ 26 + 4 * p) → zMv r k = r k := fun k hk => zMv_o h hk
  refine h.of (fun k hk => o k (by omega)) (by rw [o 3 (by omega)]; exact h.r3) (fun k hk => by rw [o _ (by omega)]; exact h.ht hk) (fun q hq => ⟨o _ (by omega), o _ (by omega)⟩) (fun q hq => by rw [o _ (by omega)]; exact h.td hq) (fun p hp => ?_) (fun p q hp hq hne e => ?_) (fun k hk => by rw [o k (by omega)]; exact h.out hk)
  · rw [show zMv r (26 + 4 * p) = zmv r p from zMv_at h hp]
    rcases zmv_n h hp with ⟨-, e⟩ | ⟨t, -, -, -, hf, e⟩
    · exact Or.inl e
    · exact Or.inr ⟨_, Nat.mod_lt _ (by omega), e⟩
  · have e1 : zMv r (26 + 4 * p) = zmv r p := zMv_at h hp
    have e2 : zMv r (26 + 4 * q) = zmv r q := zMv_at h hq
    rw [e1, e2] at e
    rw [e1]
    rcases zmv_n h hp with ⟨-, a⟩ | ⟨t, ht, et, ha, hf, a⟩
    · exact a
    · rcases zmv_n h hq with ⟨-, b⟩ | ⟨u, hu, eu, hb, hg, b⟩
      · rw [e]; exact b
      · exfalso
        have e3 : nI t = nI u := by rw [← et, ← eu]
        have tu : t = u := (nI_eq (by omega) (by omega)).mp e3
        subst tu
        rw [a, b, nI_eq (Nat.lt_trans (Nat.mod_lt _ (by omega)) (by omega)) (Nat.lt_trans (Nat.mod_lt _ (by omega)) (by omega))] at e
        have : zsf r p = zsf r q := by
          have e4 : ∀ F, F ≤ 6 → ∀ t, t ≤ 5 → ∀ x, x < F → ∀ y, y < F → (x + t) % F = (y + t) % F → x = y := by
            intro F hF t ht x hx y hy h
            have h1 : F = 1 ∨ F = 2 ∨ F = 3 ∨ F = 4 ∨ F = 5 ∨ F = 6 := by omega
            rcases h1 with rfl | rfl | rfl | rfl | rfl | rfl <;> omega
          exact e4 F hF t ht _ hf _ hg e
        exact h.inj hp hq hne (by rw [ha]; exact nI_pos (by omega)) (by rw [hb]; exact nI_pos (by omega)) this
/-- what he grows is small -/
theorem zgrw_b {k a b : Nat} (ha : a ≤ 30) (hb : b ≤ 30) : ∃ t, t ≤ 18 ∧ zgrw k (nI a) (nI b) = nI t := by
  unfold zgrw
  split
  · exact ⟨a / 2, by omega, pk_div (by omega) (by omega) (by omega)⟩
  · split
    · exact ⟨b / 2, by omega, pk_div (by omega) (by omega) (by omega)⟩
    · split
      · exact ⟨a / 2 + 3, by omega, by rw [pk_div (by omega) (by omega) (by omega), nI_add]⟩
      · split
        · exact ⟨b / 2 / 2, by omega, by rw [pk_div (by omega) (by omega) (by omega), pk_div (by omega) (by omega) (by omega)]⟩
        · exact ⟨0, by omega, rfl⟩
theorem zgw_b (h : zGd r F P) {p : Nat} (hp : p < P) : ∃ t, t ≤ 18 ∧ zgw r p = nI t := by
  have hF := h.F6
  unfold zgw
  by_cases hw : zwk r p = true
  · rw [if_pos hw]
    have h1 := (h.sf6 hp hw).1
    obtain ⟨a, ha, ea⟩ := h.ht (k := 3 * zsf r p) (by omega)
    obtain ⟨b, hb, eb⟩ := h.ht (k := 3 * zsf r p + 1) (by omega)
    rw [← Nat.add_assoc] at eb
    rw [ea, eb]
    exact zgrw_b ha hb
  · rw [if_neg hw]; exact ⟨0, by omega, rfl⟩
theorem zAl_b (h : zGd r F P) {i : Nat} (hi : i ≤ P) : ∃ t, t ≤ 18 * i ∧ zAl r i = nI t := by
  induction i with
  | zero => exact ⟨0, by omega, rfl⟩
  | succ i ih =>
    obtain ⟨a, ha, ea⟩ := ih (by omega)
    obtain ⟨b, hb, eb⟩ := zgw_b h (p := i) (by omega)
    exact ⟨a + b, by omega, by rw [zAl, ea, eb, nI_add]⟩
theorem zgw_congr {r' : zRw} {p : Nat} (h : ∀ k, 5 ≤ k → r' k = r k) : zgw r' p = zgw r p := by
  have e1 : zwk r' p = zwk r p := by rw [zwk, zwk, zat, zat, ztd, ztd, h _ (by omega), h _ (by omega)]
  have e2 : zsf r' p = zsf r p := by rw [zsf, zsf, zat, zat, h _ (by omega)]
  have e3 : zkd r' p = zkd r p := by rw [zkd, zkd, h _ (by omega)]
  unfold zgw
  rw [e1, e2, e3, h _ (by omega), h _ (by omega)]
/-- the free farms' year doesn't touch what he grows -/
theorem zgw_U (h : zGd r F P) {p : Nat} (hp : p < P) : zgw (zU r) p = zgw r p := by
  have hF := h.F6
  have o : ∀ k, 23 ≤ k → zU r k = r k := fun k hk => zU_static h (Or.inr hk)
  have e1 : zwk (zU r) p = zwk r p := by rw [zwk, zwk, zat, zat, ztd, ztd, o _ (by omega), o _ (by omega)]
  have e2 : zsf (zU r) p = zsf r p := by rw [zsf, zsf, zat, zat, o _ (by omega)]
  have e3 : zkd (zU r) p = zkd r p := by rw [zkd, zkd, o _ (by omega)]
  unfold zgw
  rw [e1, e2, e3]
  by_cases hw : zwk r p = true
  · rw [if_pos hw, if_pos hw]
    obtain ⟨h1, h2⟩ := h.sf6 hp hw
    have hno : ¬ zfr r (zsf r p) = true := fun q => zfr_iff.mp q p (by rw [h.nP]; exact hp) h2
    have u : ∀ s, s < 3 → zU r (5 + 3 * zsf r p + s) = r (5 + 3 * zsf r p + s) := by
      intro s hs
      unfold zU
      rw [if_neg]
      rintro ⟨-, -, q⟩
      rw [show (5 + 3 * zsf r p + s - 5) / 3 = zsf r p by omega] at q
      exact hno q
    have u0 := u 0 (by omega)
    rw [Nat.add_zero] at u0
    rw [u0, u 1 (by omega)]
  · rw [if_neg hw, if_neg hw]
theorem zAl_congr {r' : zRw} {i : Nat} (h : ∀ p, p < i → zgw r' p = zgw r p) : zAl r' i = zAl r i := by
  induction i with
  | zero => rfl
  | succ i ih => rw [zAl, zAl, ih (fun p hp => h p (by omega)), h i (by omega)]
theorem zfr_congr {r' : zRw} {f : Nat} (h1 : r' 1 = r 1) (h : ∀ p, r' (26 + 4 * p) = r (26 + 4 * p)) : zfr r' f = zfr r f := by
  unfold zfr zNP zat
  simp only [h1, h]
theorem zU_upd3 {x : Int32} : zU (upd r 3 x) = upd (zU r) 3 x := by
  funext k
  have e0 : zNF (upd r 3 x) = zNF r := by rw [zNF, zNF, zupd_o (by omega)]
  have e1 : ∀ f, zfr (upd r 3 x) f = zfr r f := fun f => zfr_congr (zupd_o (by omega)) (fun p => zupd_o (by omega))
  by_cases hk : k = 3
  · subst hk
    rw [zU_o (by omega), zupd_s, zupd_s]
  · rw [zupd_o hk]
    unfold zU
    rw [e0, e1, zupd_o hk]
/-- the year as the class has it: the free farms first -/
theorem zYw_alt (h : zGd r F P) (all : Int32) : zYw r all = zMv (upd (zTn (zU (upd r 4 (r 4 + nI 1))) P) 3 (zhd (r 3 + all) (nI 9999))) := by
  unfold zYw
  rw [h.nP, zU_upd3, zU_Tn (zGd_4 h _) (Nat.le_refl _)]
theorem zGd_Yw (h : zGd r F P) (all : Int32) : zGd (zYw r all) F P := by
  rw [zYw_alt h]
  exact zGd_Mv (zGd_3 (zGd_Tn (zGd_U (zGd_4 h _)) (Nat.le_refl _)) (zhd_b (by omega)))
theorem zGd_Y (h : zGd r F P) : zGd (zYr r) F P := zGd_Yw h _
end zGY
