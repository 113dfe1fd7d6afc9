/-! LAND: seats, exchange, comparisons, feeding, bits -/
/-- p sits at f then; who was there is nowhere -/
def zSt1 (r : zRw) (p f : Nat) : zRw := fun k => if k = 26 + 4 * p then nI f else if 26 ≤ k ∧ k < 26 + 4 * zNP r ∧ (k - 26) % 4 = 0 ∧ r k = nI f then -9 else r k
theorem zten_one {r : zRw} {F P f : Nat} (h : zGd r F P) (hf : f < F) : (zten r (nI f) 0 P = -9 ∧ ∀ q, q < P → zat r q ≠ nI f) ∨ ∃ q, q < P ∧ zten r (nI f) 0 P = nI q ∧ zat r q = nI f ∧ ∀ p, p < P → zat r p = nI f → p = q := by
  have hF := h.F6
  have hP := h.P6
  have main : ∀ k i, i + k = P → (zten r (nI f) i k = -9 ∧ ∀ q, i ≤ q → q < P → zat r q ≠ nI f) ∨ ∃ q, i ≤ q ∧ q < P ∧ zten r (nI f) i k = nI q ∧ zat r q = nI f := by
    intro k
    induction k with
    | zero => intro i hi; exact Or.inl ⟨rfl, fun q h1 h2 => absurd h2 (by omega)⟩
    | succ k ih =>
      intro i hi
      unfold zten
      by_cases c : zat r i = nI f
      · rw [if_pos c]; exact Or.inr ⟨i, Nat.le_refl _, by omega, rfl, c⟩
      · rw [if_neg c]
        rcases ih (i + 1) (by omega) with ⟨e, z⟩ | ⟨q, h1, h2, h3, h4⟩
        · refine Or.inl ⟨e, fun q h1 h2 => ?_⟩
          by_cases y : q = i
          · subst y; exact c
          · exact z q (by omega) h2
        · exact Or.inr ⟨q, by omega, h2, h3, h4⟩
  rcases main P 0 (by omega) with ⟨e, z⟩ | ⟨q, h1, h2, h3, h4⟩
  · exact Or.inl ⟨e, fun q hq => z q (by omega) hq⟩
  · refine Or.inr ⟨q, h2, h3, h4, fun p hp he => ?_⟩
    by_cases y : p = q
    · exact y
    · exfalso
      have := h.2.2.2.2.2.2.2.2.1 p q hp h2 y (he.trans h4.symm)
      rw [show r (26 + 4 * p) = nI f from he] at this
      exact nI_n9 (by omega) this
theorem zSt1_of {r r' : zRw} {F P p f : Nat} (h : zGd r F P) (hf : f < F) (hp : p < P) (o : ∀ k, (∀ q, q < 6 → k ≠ 26 + 4 * q) → r' k = r k) (a : ∀ q, q < 6 → r' (26 + 4 * q) = if q = p then nI f else if q < P ∧ zat r q = nI f then -9 else zat r q) : r' = zSt1 r p f := by
  have hP := h.P6
  refine zrow_ext (fun k hk => ?_) (fun k hk => ?_) (fun q hq => ?_) (fun q hq => ?_) (fun q hq => ?_) (fun q hq => ?_) (fun k hk => ?_)
  · rw [o k (by omega), zSt1, if_neg (by omega), if_neg (by omega)]
  · rw [o _ (by omega), zSt1, if_neg (by omega), if_neg (by omega)]
  · rw [o _ (by omega), zSt1, if_neg (by omega), if_neg (by omega)]
  · rw [o _ (by omega), zSt1, if_neg (by omega), if_neg (by omega)]
  · rw [o _ (by omega), zSt1, if_neg (by omega), if_neg (by omega)]
  · rw [a q hq, zSt1, h.nP]
    by_cases e : q = p
    · subst e; rw [if_pos rfl, if_pos rfl]
    · rw [if_neg e, if_neg (show ¬ 26 + 4 * q = 26 + 4 * p by omega)]
      by_cases d : q < P ∧ zat r q = nI f
      · rw [if_pos d, if_pos ⟨by omega, by omega, by omega, d.2⟩]
      · rw [if_neg d, if_neg (fun z => d ⟨by omega, z.2.2.2⟩)]; rfl
  · rw [o k (by omega), zSt1, if_neg (by omega), if_neg (by rw [h.nP]; omega)]
theorem zGd_St {r : zRw} {F P p f : Nat} (h : zGd r F P) (hp : p < P) (hf : f < F) : zGd (zSt1 r p f) F P := by
  have hP := h.P6
  have o : ∀ k, (∀ q, q < P → k ≠ 26 + 4 * q) → zSt1 r p f k = r k := by
    intro k hk
    have := hk p hp
    unfold zSt1
    rw [if_neg this, if_neg]
    rintro ⟨h1, h2, h3, -⟩
    rw [h.nP] at h2
    exact hk ((k - 26) / 4) (by omega) (by omega)
  have a : ∀ q, q < P → zSt1 r p f (26 + 4 * q) = if q = p then nI f else if zat r q = nI f then -9 else zat r q := by
    intro q hq
    unfold zSt1
    rw [h.nP]
    by_cases e : q = p
    · subst e; rw [if_pos rfl, if_pos rfl]
    · rw [if_neg (by omega), if_neg e]
      by_cases d : zat r q = nI f
      · rw [if_pos d, if_pos ⟨by omega, by omega, by omega, d⟩]
      · rw [if_neg d, if_neg (fun z => d z.2.2.2)]; rfl
  refine h.of (fun k hk => o k (by omega)) (by rw [o 3 (by omega)]; exact h.r3) (fun k hk => by rw [o _ (by omega)]; exact h.ht hk) (fun q hq => ⟨o _ (by omega), o _ (by omega)⟩) (fun q hq => by rw [o _ (by omega)]; exact h.td hq) (fun q hq => ?_) (fun q q' hq hq' hne e => ?_) (fun k hk => by rw [o k (by omega)]; exact h.out hk)
  · rw [a q hq]
    split
    · exact Or.inr ⟨f, hf, rfl⟩
    · split
      · exact Or.inl rfl
      · exact h.at' hq
  · have hF := h.F6
    rw [a q hq, a q' hq'] at e
    rw [a q hq]
    by_cases e1 : q = p
    · rw [if_pos e1] at e
      rw [if_neg (fun z => hne (by omega))] at e
      split at e
      · exact absurd e (nI_n9 (by omega))
      · rename_i z
        exact absurd e.symm z
    · rw [if_neg e1] at e ⊢
      by_cases e2 : zat r q = nI f
      · rw [if_pos e2]
      · rw [if_neg e2] at e ⊢
        by_cases e3 : q' = p
        · rw [if_pos e3] at e; exact absurd e e2
        · rw [if_neg e3] at e
          split at e
          · exact e
          · exact h.2.2.2.2.2.2.2.2.1 q q' hq hq' hne e

theorem s_X1_seat {n : Nat} {σ : zSt} {b F P : Nat} (hb : zLd b) (hg : zGd (zrow σ b) F P) {p f : Nat} (hp : p < P) (hf : f < F) : zSem (n + 1) mX1_seat [.ref b, .int (nI p), .int (nI f)] σ (fun v τ => v = none ∧ zrow τ b = zSt1 (zrow σ b) p f ∧ ∀ d, d ≠ b + 6 → τ d = σ d) := by
  refine zSem.of (by decide +kernel) (Nat.le_of_ble_eq_true rfl) (fun X hB hR => ?_)
  show zW X 0 [some (.ref b), some (.int (nI p)), some (.int (nI f)), none] [] σ
  have hF6 := hg.F6
  have hP6 := hg.P6
  rcases zten_one hg hf with ⟨e, hno⟩ | ⟨q, hq, e, ea, hun⟩
  · refine zw_aload0 hB dX1_seat_0 ?_
    refine zw_iload2 hB dX1_seat_1 ?_
    refine zw_callV1 (M' := mX1_tenantOf) hB dX1_seat_2 zl_X1_59 zg_X1_tenantOf (zRc.of hb.1 rfl rfl) (s_X1_tenantOf hb hg (nI f)) (fun v2 σ2 hq2 => ?_)
    obtain ⟨rfl, rfl⟩ := hq2
    rw [e]
    show zW X 5 _ [.int (-9)] _
    refine zw_istore3 hB dX1_seat_5 rfl ?_
    refine zw_iload3 hB dX1_seat_6 ?_
    refine zw_bipush (x := -9) hB dX1_seat_7 (by decide) ?_
    refine zw_icmp_eq (tgt := 20) hB dX1_seat_9 (by decide) (fun c9 => ?_) (fun c9 => by first | exact absurd rfl c9 | exact absurd c9 rfl | omega)
    refine zw_aload0 hB dX1_seat_20 ?_
    refine zw_getfR hB dX1_seat_21 zf_X1_31 hb.1 rfl ?_
    refine zw_iload1 hB dX1_seat_24 ?_
    refine zw_iload2 hB dX1_seat_25 ?_
    refine zw_iastN hB dX1_seat_26 hb.2.2.2.2.2.2.1 (by omega) (by decide) ?_
    refine zw_vret hB hR dX1_seat_27 rfl ?_
    refine ⟨rfl, ?_, fun d hd => ?_⟩
    · try simp only [zC_C, zC_s]
      rw [zrow_seta]
      refine zSt1_of hg hf hp (fun k hk => ?_) (fun j hj => ?_)
      · rw [if_neg (fun z => hk ((k - 26) / 4) (by omega) (by omega))]
      · rw [if_pos (by omega), show (26 + 4 * j - 26) / 4 = j by omega]
        by_cases y : j = p
        · subst y; rw [zupd_s, if_pos rfl]
        · rw [zupd_o y, if_neg y]
          rw [if_neg (fun z => hno j z.1 z.2)]; exact zrow_at hj
    · simp only [zC_n hd]
  · refine zw_aload0 hB dX1_seat_0 ?_
    refine zw_iload2 hB dX1_seat_1 ?_
    refine zw_callV1 (M' := mX1_tenantOf) hB dX1_seat_2 zl_X1_59 zg_X1_tenantOf (zRc.of hb.1 rfl rfl) (s_X1_tenantOf hb hg (nI f)) (fun v2 σ2 hq2 => ?_)
    obtain ⟨rfl, rfl⟩ := hq2
    rw [e]
    show zW X 5 _ [.int (nI q)] _
    refine zw_istore3 hB dX1_seat_5 rfl ?_
    refine zw_iload3 hB dX1_seat_6 ?_
    refine zw_bipush (x := -9) hB dX1_seat_7 (by decide) ?_
    refine zw_icmp_eq (tgt := 20) hB dX1_seat_9 (by decide) (fun c9 => by first | exact absurd c9 (nI_n9 (by omega)) | exact absurd (nI_n9 (by omega)) c9 | omega) (fun c9 => ?_)
    refine zw_aload0 hB dX1_seat_12 ?_
    refine zw_getfR hB dX1_seat_13 zf_X1_31 hb.1 rfl ?_
    refine zw_iload3 hB dX1_seat_16 ?_
    refine zw_bipush (x := -9) hB dX1_seat_17 (by decide) ?_
    refine zw_iastN hB dX1_seat_19 hb.2.2.2.2.2.2.1 (by omega) (by decide) ?_
    refine zw_aload0 hB dX1_seat_20 ?_
    refine zw_getfR hB dX1_seat_21 zf_X1_31 hb.1 rfl ?_
    refine zw_iload1 hB dX1_seat_24 ?_
    refine zw_iload2 hB dX1_seat_25 ?_
    refine zw_iastN hB dX1_seat_26 hb.2.2.2.2.2.2.1 (by omega) (by decide) ?_
    refine zw_vret hB hR dX1_seat_27 rfl ?_
    refine ⟨rfl, ?_, fun d hd => ?_⟩
    · try simp only [zC_C, zC_s]
      rw [zrow_seta]
      refine zSt1_of hg hf hp (fun k hk => ?_) (fun j hj => ?_)
      · rw [if_neg (fun z => hk ((k - 26) / 4) (by omega) (by omega))]
      · rw [if_pos (by omega), show (26 + 4 * j - 26) / 4 = j by omega]
        by_cases y : j = p
        · subst y; rw [zupd_s, if_pos rfl]
        · rw [zupd_o y, if_neg y]
          by_cases u : j = q
          · subst u
            rw [zupd_s, if_pos ⟨hq, ea⟩]
          · rw [zupd_o u, if_neg (fun z => u (hun j z.1 z.2))]; exact zrow_at hj
    · simp only [zC_n hd]
theorem zro_seta {σ : zSt} {c : Nat} {f : Nat → Int32} (h : ∀ k, (∀ q, q < 6 → k ≠ 26 + 4 * q) → f k = σ c k) : ∀ k, (∀ q, q < 6 → k ≠ 26 + 4 * q) → zro (zC σ c f) c k = zro σ c k := by
  intro k hk
  rw [zro_C]
  show (if k < 47 then f k else 0) = if k < 47 then σ c k else 0
  by_cases e : k < 47
  · rw [if_pos e, if_pos e, h k hk]
  · rw [if_neg e, if_neg e]
theorem s_X6_sitsIn {n : Nat} {σ : zSt}  {c F P p f : Nat} (hc : zLY[c]? = some (.inl 47)) (hg : zGd (zro σ c) F P) (hp : p < P) (hf : f < F) : zSem (n + 2) mX6_sitsIn [.ref c, .int (nI p), .int (nI f)] σ (fun v τ => v = none ∧ zro τ c = zSt1 (zro σ c) p f ∧ ∀ d, d ≠ c → τ d = σ d) := by
  refine zSem.of (by decide +kernel) (Nat.le_of_ble_eq_true rfl) (fun X hB hR => ?_)
  show zW X 0 [some (.ref c), some (.int (nI p)), some (.int (nI f)), none] [] σ
  have hF6 := hg.F6
  have hP6 := hg.P6
  have hP : σ c 1 = nI P := (zro_k (by omega)).symm.trans hg.r1
  rcases zten_one hg hf with ⟨e, hno⟩ | ⟨q, hq, e, ea, hun⟩
  · refine zw_aload0 hB dX6_sitsIn_0 ?_
    refine zw_iload2 hB dX6_sitsIn_1 ?_
    refine zw_callS2 (M' := mX6_farmerAt) hB dX6_sitsIn_2 zl_X6_80 zg_X6_farmerAt (s_X6_farmerAt hc hP hP6 (nI f)) (fun v2 σ2 hq2 => ?_)
    obtain ⟨rfl, rfl⟩ := hq2
    rw [e]
    show zW X 5 _ [.int (-9)] _
    refine zw_istore3 hB dX6_sitsIn_5 rfl ?_
    refine zw_iload3 hB dX6_sitsIn_6 ?_
    refine zw_if_lt (tgt := 19) hB dX6_sitsIn_7 (by decide) (fun c7 => ?_) (fun c7 => by first | exact absurd zneg9 c7 | exact absurd c7 zneg9 | omega)
    refine zw_aload0 hB dX6_sitsIn_19 ?_
    refine zw_iload1 hB dX6_sitsIn_20 ?_
    refine zw_iconst (x := nI 3) hB dX6_sitsIn_21 (by decide) ?_
    refine zw_callS2P (M' := mX6_of) hB dX6_sitsIn_22 zl_X6_56 zg_X6_of (s_X6_of) ?_
    refine zw_iload2 hB dX6_sitsIn_25 ?_
    refine zw_iastN hB dX6_sitsIn_26 hc (by omega) (by decide) ?_
    refine zw_vret hB hR dX6_sitsIn_27 rfl ?_
    refine ⟨rfl, ?_, fun d hd => by simp only [zC_n hd]⟩
    try simp only [zC_C, zC_s]
    refine zSt1_of hg hf hp (zro_seta (fun k hk => ?_)) (fun j hj => ?_)
    · rw [zupd_o (fun z => hk p (by omega) (by omega))]
    · rw [zro_C]
      show (if 26 + 4 * j < 47 then _ else _) = _
      rw [if_pos (by omega)]
      by_cases y : j = p
      · subst y; rw [show 23 + 4 * j + 3 = 26 + 4 * j by omega, zupd_s, if_pos rfl]
      · rw [zupd_o (by omega), if_neg y]
        rw [if_neg (fun z => hno j z.1 z.2), zat, zro_k (by omega)]
  · refine zw_aload0 hB dX6_sitsIn_0 ?_
    refine zw_iload2 hB dX6_sitsIn_1 ?_
    refine zw_callS2 (M' := mX6_farmerAt) hB dX6_sitsIn_2 zl_X6_80 zg_X6_farmerAt (s_X6_farmerAt hc hP hP6 (nI f)) (fun v2 σ2 hq2 => ?_)
    obtain ⟨rfl, rfl⟩ := hq2
    rw [e]
    show zW X 5 _ [.int (nI q)] _
    refine zw_istore3 hB dX6_sitsIn_5 rfl ?_
    refine zw_iload3 hB dX6_sitsIn_6 ?_
    refine zw_if_lt (tgt := 19) hB dX6_sitsIn_7 (by decide) (fun c7 => by first | exact absurd c7 (nI_pos (by omega)) | exact absurd (nI_pos (by omega)) c7 | omega) (fun c7 => ?_)
    refine zw_aload0 hB dX6_sitsIn_10 ?_
    refine zw_iload3 hB dX6_sitsIn_11 ?_
    refine zw_iconst (x := nI 3) hB dX6_sitsIn_12 (by decide) ?_
    refine zw_callS2P (M' := mX6_of) hB dX6_sitsIn_13 zl_X6_56 zg_X6_of (s_X6_of) ?_
    refine zw_bipush (x := -9) hB dX6_sitsIn_16 (by decide) ?_
    refine zw_iastN hB dX6_sitsIn_18 hc (by omega) (by decide) ?_
    refine zw_aload0 hB dX6_sitsIn_19 ?_
    refine zw_iload1 hB dX6_sitsIn_20 ?_
    refine zw_iconst (x := nI 3) hB dX6_sitsIn_21 (by decide) ?_
    refine zw_callS2P (M' := mX6_of) hB dX6_sitsIn_22 zl_X6_56 zg_X6_of (s_X6_of) ?_
    refine zw_iload2 hB dX6_sitsIn_25 ?_
    refine zw_iastN hB dX6_sitsIn_26 hc (by omega) (by decide) ?_
    refine zw_vret hB hR dX6_sitsIn_27 rfl ?_
    refine ⟨rfl, ?_, fun d hd => by simp only [zC_n hd]⟩
    try simp only [zC_C, zC_s]
    refine zSt1_of hg hf hp (zro_seta (fun k hk => ?_)) (fun j hj => ?_)
    · rw [zupd_o (fun z => hk p (by omega) (by omega)), zupd_o (fun z => hk q (by omega) (by omega))]
    · rw [zro_C]
      show (if 26 + 4 * j < 47 then _ else _) = _
      rw [if_pos (by omega)]
      by_cases y : j = p
      · subst y; rw [show 23 + 4 * j + 3 = 26 + 4 * j by omega, zupd_s, if_pos rfl]
      · rw [zupd_o (by omega), if_neg y]
        by_cases u : j = q
        · subst u
          rw [show 23 + 4 * j + 3 = 26 + 4 * j by omega, zupd_s, if_pos ⟨hq, ea⟩]
        · rw [zupd_o (by omega), if_neg (fun z => u (hun j z.1 z.2)), zat, zro_k (by omega)]
