/-! THE STATE of which the calls speak; refusals -/
abbrev zS : Type := zRw × Option zRw × List Int32 × List Int32 × (Nat → Int32)
def zArr (f : Nat → Int32) (l : List Int32) : Prop := ∀ k, k < l.length → f k = l.getD k 0
/-- the class's cells hold S -/
def zCW (S : zS) (σ : zSt) : Prop := zrow σ 1 = S.1 ∧ ((S.2.1 = none ∧ σ 0 2 = 0) ∨ ∃ q, S.2.1 = some q ∧ σ 0 2 = 1 ∧ zrow σ 9 = q) ∧ (σ 25 1 = nI S.2.2.1.length ∧ zArr (σ 26) S.2.2.1) ∧ (σ 0 7 = nI S.2.2.2.1.length ∧ zArr (σ 48) S.2.2.2.1) ∧ ∀ k, k < 7 → σ 49 k = S.2.2.2.2 k
/-- the reference's cells hold S -/
def zRW (S : zS) (σ : zSt) : Prop := zro σ 51 = S.1 ∧ ((S.2.1 = none ∧ σ 50 6 = 0) ∨ ∃ q, S.2.1 = some q ∧ σ 50 6 = 1 ∧ zro σ 53 = q) ∧ (σ 50 10 = nI S.2.2.1.length ∧ zArr (σ 57) S.2.2.1) ∧ (σ 50 11 = nI S.2.2.2.1.length ∧ zArr (σ 58) S.2.2.2.1) ∧ ∀ k, k < 7 → σ 59 k = S.2.2.2.2 k
/-- land of at most 999 years -/
def zLn (r : zRw) : Prop := (∃ F P, zGd r F P) ∧ ∃ y, y ≤ 999 ∧ r 4 = nI y
def zOk (S : zS) : Prop := zLn S.1 ∧ (∀ q, S.2.1 = some q → zLn q) ∧ (S.2.2.1.length ≤ 96 ∧ ∀ x ∈ S.2.2.1, ∃ c, c ≤ 255 ∧ x = nI c) ∧ (S.2.2.2.1.length ≤ 16 ∧ ∀ x ∈ S.2.2.2.1, ∃ c, c ≤ 99 ∧ x = nI c)
def zCQ (q : Value × zS) (σ : zSt) : Option Value → zSt → Prop := fun v τ => v = some q.1 ∧ zCW q.2 τ ∧ ∀ c, 50 ≤ c → τ c = σ c
def zRQ (q : Value × zS) (σ : zSt) : Option Value → zSt → Prop := fun v τ => v = some q.1 ∧ zRW q.2 τ ∧ ∀ c, c < 50 → τ c = σ c
theorem zCW.keep {S : zS} {σ τ : zSt} (h : zCW S σ) (k : ∀ c, (c ≤ 16 ∨ c = 25 ∨ c = 26 ∨ c = 48 ∨ c = 49) → τ c = σ c) : zCW S τ := by
  obtain ⟨h1, h2, h3, h4, h5⟩ := h
  refine ⟨?_, ?_, ?_, ?_, ?_⟩
  · rw [← h1]; exact zrow_congr (fun c _ _ => k c (by omega))
  · rw [k 0 (by omega)]
    rcases h2 with h | ⟨q, a, b, c⟩
    · exact Or.inl h
    · exact Or.inr ⟨q, a, b, by rw [← c]; exact zrow_congr (fun c _ _ => k c (by omega))⟩
  · rw [k 25 (by omega), k 26 (by omega)]; exact h3
  · rw [k 0 (by omega), k 48 (by omega)]; exact h4
  · rw [k 49 (by omega)]; exact h5
theorem zRW.keep {S : zS} {σ τ : zSt} (h : zRW S σ) (k0 : τ 50 6 = σ 50 6 ∧ τ 50 10 = σ 50 10 ∧ τ 50 11 = σ 50 11) (k : ∀ c, (c = 51 ∨ c = 53 ∨ c = 57 ∨ c = 58 ∨ c = 59) → τ c = σ c) : zRW S τ := by
  obtain ⟨h1, h2, h3, h4, h5⟩ := h
  refine ⟨?_, ?_, ?_, ?_, ?_⟩
  · rw [← h1]; exact zro_congr (k 51 (by omega))
  · rw [k0.1]
    rcases h2 with h | ⟨q, a, b, c⟩
    · exact Or.inl h
    · exact Or.inr ⟨q, a, b, by rw [← c]; exact zro_congr (k 53 (by omega))⟩
  · rw [k0.2.1, k 57 (by omega)]; exact h3
  · rw [k0.2.2, k 58 (by omega)]; exact h4
  · rw [k 59 (by omega)]; exact h5
/-- one refusal more, of code e -/
def zNo (S : zS) (e : Int32) : zS := (S.1, S.2.1, S.2.2.1, S.2.2.2.1, upd S.2.2.2.2 (-e).toNatClampNeg (S.2.2.2.2 (-e).toNatClampNeg + nI 1))
/-- refused with e, or a -/
def zq (S : zS) (e : Int32) (a : Value × zS) : Value × zS := if e = 0 then a else (.int e, zNo S e)
def zcd (e : Int32) : Prop := e = 0 ∨ ∃ k, k < 7 ∧ -e = nI k
theorem zCW.no {S : zS} {σ : zSt} {k : Nat} {e : Int32} (h : zCW S σ) (hk : k < 7) (he : -e = nI k) : zCW (zNo S e) (zRf σ 49 k) := by
  obtain ⟨h1, h2, h3, h4, h5⟩ := h
  have hn : ∀ c, c ≠ 49 → zRf σ 49 k c = σ c := fun c hc => zC_n hc
  have ek : (-e).toNatClampNeg = k := by rw [he, nI_clamp (by omega)]
  refine ⟨?_, ?_, ?_, ?_, ?_⟩
  · rw [show (zNo S e).1 = S.1 from rfl, ← h1]; exact zrow_congr (fun c _ _ => hn c (by omega))
  · rw [hn 0 (by omega)]
    rcases h2 with h | ⟨q, a, b, c⟩
    · exact Or.inl h
    · exact Or.inr ⟨q, a, b, by rw [← c]; exact zrow_congr (fun c _ _ => hn c (by omega))⟩
  · rw [hn 25 (by omega), hn 26 (by omega)]; exact h3
  · rw [hn 0 (by omega), hn 48 (by omega)]; exact h4
  · intro j hj
    show zC σ 49 _ 49 j = upd S.2.2.2.2 _ _ j
    rw [zC_s, ek]
    by_cases e1 : j = k
    · subst e1; rw [zupd_s, zupd_s, h5 j hj]
    · rw [zupd_o e1, zupd_o e1, h5 j hj]
theorem zRW.no {S : zS} {σ : zSt} {k : Nat} {e : Int32} (h : zRW S σ) (hk : k < 7) (he : -e = nI k) : zRW (zNo S e) (zRf σ 59 k) := by
  obtain ⟨h1, h2, h3, h4, h5⟩ := h
  have hn : ∀ c, c ≠ 59 → zRf σ 59 k c = σ c := fun c hc => zC_n hc
  have ek : (-e).toNatClampNeg = k := by rw [he, nI_clamp (by omega)]
  refine ⟨?_, ?_, ?_, ?_, ?_⟩
  · rw [show (zNo S e).1 = S.1 from rfl, ← h1]; exact zro_congr (hn 51 (by omega))
  · rw [hn 50 (by omega)]
    rcases h2 with h | ⟨q, a, b, c⟩
    · exact Or.inl h
    · exact Or.inr ⟨q, a, b, by rw [← c]; exact zro_congr (hn 53 (by omega))⟩
  · rw [hn 50 (by omega), hn 57 (by omega)]; exact h3
  · rw [hn 50 (by omega), hn 58 (by omega)]; exact h4
  · intro j hj
    show zC σ 59 _ 59 j = upd S.2.2.2.2 _ _ j
    rw [zC_s, ek]
    by_cases e1 : j = k
    · subst e1; rw [zupd_s, zupd_s, h5 j hj]
    · rw [zupd_o e1, zupd_o e1, h5 j hj]
/-! the words of refusal, as the class makes them -/
def znb (c : Prop) [Decidable c] : Int32 := if c then nI 0 else -1
def zrO (c : Prop) [Decidable c] : Int32 := if c then nI 0 else -6
def zou (w m : Int32) : Int32 := if ¬ w < 0 ∧ ¬ m < w then nI 0 else -2
def zir (v a m : Int32) : Int32 := if v < a then -4 else if m < v then -6 else nI 0
def zfo (a b c : Int32) : Int32 := if a = 0 then (if b = 0 then c else b) else a
theorem zcd_0 : zcd (nI 0) := Or.inl rfl
theorem zcd_nb {c : Prop} [Decidable c] : zcd (znb c) := by unfold znb; split; exact zcd_0; exact Or.inr ⟨1, by omega, by decide⟩
theorem zcd_rm {c : Prop} [Decidable c] : zcd (zrO c) := by unfold zrO; split; exact zcd_0; exact Or.inr ⟨6, by omega, by decide⟩
theorem zcd_ou {w m : Int32} : zcd (zou w m) := by unfold zou; split; exact zcd_0; exact Or.inr ⟨2, by omega, by decide⟩
theorem zcd_ir {v a m : Int32} : zcd (zir v a m) := by unfold zir; split; exact Or.inr ⟨4, by omega, by decide⟩; split; exact Or.inr ⟨6, by omega, by decide⟩; exact zcd_0
theorem zcd_fo {a b c : Int32} (ha : zcd a) (hb : zcd b) (hc : zcd c) : zcd (zfo a b c) := by unfold zfo; split; split; exact hc; exact hb; exact ha
theorem zq_t {S : zS} {e : Int32} {a : Value × zS} (h : e = 0) : zq S e a = a := if_pos h
theorem zq_f {S : zS} {e : Int32} {a : Value × zS} (h : ¬ e = 0) : zq S e a = (.int e, zNo S e) := if_neg h

theorem s_X5_nobodyUnless {n : Nat} {σ : zSt}  {c : Prop} [Decidable c] : zSem n mX5_nobodyUnless [.int (zb c)] σ (zP σ (.int (znb c))) := by
  refine zSem.of (by decide +kernel) (Nat.le_of_ble_eq_true rfl) (fun X hB hR => ?_)
  show zW X 0 [some (.int (zb c))] [] σ
  refine zw_iload0 hB dX5_nobodyUnless_0 ?_
  refine zw_if_eqB (tgt := 8) hB dX5_nobodyUnless_1 (by decide) (fun c1 => ?_) (fun c1 => ?_)
  · refine zw_iconst (x := -1) hB dX5_nobodyUnless_8 (by decide) ?_
    refine zw_iret hB hR dX5_nobodyUnless_9 rfl ?_
    exact ⟨by unfold znb; first | rw [if_pos c1] | rw [if_neg c1], rfl⟩
  · refine zw_iconst (x := nI 0) hB dX5_nobodyUnless_4 (by decide) ?_
    refine zw_goto (tgt := 9) hB dX5_nobodyUnless_5 (by decide) ?_
    refine zw_iret hB hR dX5_nobodyUnless_9 rfl ?_
    exact ⟨by unfold znb; first | rw [if_pos c1] | rw [if_neg c1], rfl⟩
theorem s_X5_roomIf {n : Nat} {σ : zSt}  {c : Prop} [Decidable c] : zSem n mX5_roomIf [.int (zb c)] σ (zP σ (.int (zrO c))) := by
  refine zSem.of (by decide +kernel) (Nat.le_of_ble_eq_true rfl) (fun X hB hR => ?_)
  show zW X 0 [some (.int (zb c))] [] σ
  refine zw_iload0 hB dX5_roomIf_0 ?_
  refine zw_if_eqB (tgt := 8) hB dX5_roomIf_1 (by decide) (fun c1 => ?_) (fun c1 => ?_)
  · refine zw_bipush (x := -6) hB dX5_roomIf_8 (by decide) ?_
    refine zw_iret hB hR dX5_roomIf_10 rfl ?_
    exact ⟨by unfold zrO; first | rw [if_pos c1] | rw [if_neg c1], rfl⟩
  · refine zw_iconst (x := nI 0) hB dX5_roomIf_4 (by decide) ?_
    refine zw_goto (tgt := 10) hB dX5_roomIf_5 (by decide) ?_
    refine zw_iret hB hR dX5_roomIf_10 rfl ?_
    exact ⟨by unfold zrO; first | rw [if_pos c1] | rw [if_neg c1], rfl⟩
theorem s_X5_otherUnless {n : Nat} {σ : zSt}  (w m : Int32) : zSem n mX5_otherUnless [.int w, .int m] σ (zP σ (.int (zou w m))) := by
  refine zSem.of (by decide +kernel) (Nat.le_of_ble_eq_true rfl) (fun X hB hR => ?_)
  show zW X 0 [some (.int w), some (.int m)] [] σ
  refine zw_iload0 hB dX5_otherUnless_0 ?_
  refine zw_if_lt (tgt := 13) hB dX5_otherUnless_1 (by decide) (fun c1 => ?_) (fun c1 => ?_)
  · refine zw_bipush (x := -2) hB dX5_otherUnless_13 (by decide) ?_
    refine zw_iret hB hR dX5_otherUnless_15 rfl ?_
    exact ⟨by unfold zou; rw [if_neg (fun q => q.1 c1)], rfl⟩
  · refine zw_iload0 hB dX5_otherUnless_4 ?_
    refine zw_iload1 hB dX5_otherUnless_5 ?_
    refine zw_icmp_gt (tgt := 13) hB dX5_otherUnless_6 (by decide) (fun c6 => ?_) (fun c6 => ?_)
    · refine zw_bipush (x := -2) hB dX5_otherUnless_13 (by decide) ?_
      refine zw_iret hB hR dX5_otherUnless_15 rfl ?_
      exact ⟨by unfold zou; rw [if_neg (fun q => q.2 c6)], rfl⟩
    · refine zw_iconst (x := nI 0) hB dX5_otherUnless_9 (by decide) ?_
      refine zw_goto (tgt := 15) hB dX5_otherUnless_10 (by decide) ?_
      refine zw_iret hB hR dX5_otherUnless_15 rfl ?_
      exact ⟨by unfold zou; rw [if_pos ⟨c1, c6⟩], rfl⟩
theorem s_X5_inRange {n : Nat} {σ : zSt}  (v a m : Int32) : zSem n mX5_inRange [.int v, .int a, .int m] σ (zP σ (.int (zir v a m))) := by
  refine zSem.of (by decide +kernel) (Nat.le_of_ble_eq_true rfl) (fun X hB hR => ?_)
  show zW X 0 [some (.int v), some (.int a), some (.int m)] [] σ
  refine zw_iload0 hB dX5_inRange_0 ?_
  refine zw_iload1 hB dX5_inRange_1 ?_
  refine zw_icmp_ge (tgt := 8) hB dX5_inRange_2 (by decide) (fun c2 => ?_) (fun c2 => ?_)
  · refine zw_iload0 hB dX5_inRange_8 ?_
    refine zw_iload2 hB dX5_inRange_9 ?_
    refine zw_icmp_le (tgt := 18) hB dX5_inRange_10 (by decide) (fun c10 => ?_) (fun c10 => ?_)
    · refine zw_iconst (x := nI 0) hB dX5_inRange_18 (by decide) ?_
      refine zw_iret hB hR dX5_inRange_19 rfl ?_
      exact ⟨by unfold zir; first | rw [if_pos (Int32.not_le.mp c2)] | rw [if_neg (Int32.not_lt.mpr c2), if_pos (Int32.not_le.mp c10)] | rw [if_neg (Int32.not_lt.mpr c2), if_neg (Int32.not_lt.mpr c10)], rfl⟩
    · refine zw_bipush (x := -6) hB dX5_inRange_13 (by decide) ?_
      refine zw_goto (tgt := 19) hB dX5_inRange_15 (by decide) ?_
      refine zw_iret hB hR dX5_inRange_19 rfl ?_
      exact ⟨by unfold zir; first | rw [if_pos (Int32.not_le.mp c2)] | rw [if_neg (Int32.not_lt.mpr c2), if_pos (Int32.not_le.mp c10)] | rw [if_neg (Int32.not_lt.mpr c2), if_neg (Int32.not_lt.mpr c10)], rfl⟩
  · refine zw_bipush (x := -4) hB dX5_inRange_5 (by decide) ?_
    refine zw_iret hB hR dX5_inRange_7 rfl ?_
    exact ⟨by unfold zir; first | rw [if_pos (Int32.not_le.mp c2)] | rw [if_neg (Int32.not_lt.mpr c2), if_pos (Int32.not_le.mp c10)] | rw [if_neg (Int32.not_lt.mpr c2), if_neg (Int32.not_lt.mpr c10)], rfl⟩
theorem s_X5_firstOf {n : Nat} {σ : zSt}  (a b c : Int32) : zSem n mX5_firstOf [.int a, .int b, .int c] σ (zP σ (.int (zfo a b c))) := by
  refine zSem.of (by decide +kernel) (Nat.le_of_ble_eq_true rfl) (fun X hB hR => ?_)
  show zW X 0 [some (.int a), some (.int b), some (.int c)] [] σ
  refine zw_iload0 hB dX5_firstOf_0 ?_
  refine zw_if_eq (tgt := 6) hB dX5_firstOf_1 (by decide) (fun c1 => ?_) (fun c1 => ?_)
  · refine zw_iload1 hB dX5_firstOf_6 ?_
    refine zw_if_eq (tgt := 14) hB dX5_firstOf_7 (by decide) (fun c7 => ?_) (fun c7 => ?_)
    · refine zw_iload2 hB dX5_firstOf_14 ?_
      refine zw_iret hB hR dX5_firstOf_15 rfl ?_
      exact ⟨by unfold zfo; first | rw [if_neg c1] | rw [if_pos c1, if_neg c7] | rw [if_pos c1, if_pos c7], rfl⟩
    · refine zw_iload1 hB dX5_firstOf_10 ?_
      refine zw_goto (tgt := 15) hB dX5_firstOf_11 (by decide) ?_
      refine zw_iret hB hR dX5_firstOf_15 rfl ?_
      exact ⟨by unfold zfo; first | rw [if_neg c1] | rw [if_pos c1, if_neg c7] | rw [if_pos c1, if_pos c7], rfl⟩
  · refine zw_iload0 hB dX5_firstOf_4 ?_
    refine zw_iret hB hR dX5_firstOf_5 rfl ?_
    exact ⟨by unfold zfo; first | rw [if_neg c1] | rw [if_pos c1, if_neg c7] | rw [if_pos c1, if_pos c7], rfl⟩
theorem s_X5_refuse {n : Nat} {σ : zSt}  {k : Nat} (c : Int32) (hc : -c = nI k) (hk : k < 7) : zSem n mX5_refuse [.ref 0, .int c] σ (fun v τ => v = some (.int c) ∧ τ = zRf σ 49 k) := by
  refine zSem.of (by decide +kernel) (Nat.le_of_ble_eq_true rfl) (fun X hB hR => ?_)
  show zW X 0 [some (.ref 0), some (.int c), none] [] σ
  refine zw_iload1 hB dX5_refuse_0 ?_
  refine zw_ineg hB dX5_refuse_1 ?_
  rw [hc]
  refine zw_istore2 hB dX5_refuse_2 rfl ?_
  refine zw_iload2 hB dX5_refuse_3 ?_
  refine zw_if_lt (tgt := 26) hB dX5_refuse_4 (by decide) (fun c4 => by first | exact absurd c4 (zpos (by omega)) | exact absurd (zpos (by omega)) c4 | omega) (fun c4 => ?_)
  refine zw_iload2 hB dX5_refuse_7 ?_
  refine zw_aload0 hB dX5_refuse_8 ?_
  refine zw_getfR hB dX5_refuse_9 zf_X5_40 rfl rfl ?_
  refine zw_alen hB dX5_refuse_12 rfl ?_
  refine zw_icmp_geN (tgt := 26) hB dX5_refuse_13 (by decide) (by omega) (by omega) (fun c13 => by first | exact absurd c13 (by omega) | exact absurd (by omega) c13 | omega) (fun c13 => ?_)
  refine zw_aload0 hB dX5_refuse_16 ?_
  refine zw_getfR hB dX5_refuse_17 zf_X5_40 rfl rfl ?_
  refine zw_iload2 hB dX5_refuse_20 ?_
  refine zw_dup2 hB dX5_refuse_21 rfl rfl ?_
  refine zw_ialdN hB dX5_refuse_22 rfl (by omega) (by decide) ?_
  refine zw_iconst (x := nI 1) hB dX5_refuse_23 (by decide) ?_
  refine zw_iadd hB dX5_refuse_24 ?_
  refine zw_iastN hB dX5_refuse_25 rfl (by omega) (by decide) ?_
  refine zw_iload1 hB dX5_refuse_26 ?_
  refine zw_iret hB hR dX5_refuse_27 rfl ?_
  exact ⟨rfl, rfl⟩
theorem zCQ.no {S : zS} {σ : zSt} {e : Int32} {k : Nat} {a : Value × zS} (h : zCW S σ) (he : ¬ e = 0) (hk : k < 7) (hc : -e = nI k) : zCQ (zq S e a) σ (some (.int e)) (zRf σ 49 k) := by
  rw [zq_f he]
  exact ⟨rfl, h.no hk hc, fun c hc2 => zC_n (by omega)⟩
theorem zRQ.no {S : zS} {σ : zSt} {e : Int32} {k : Nat} {a : Value × zS} (h : zRW S σ) (he : ¬ e = 0) (hk : k < 7) (hc : -e = nI k) : zRQ (zq S e a) σ (some (.int e)) (zRf σ 59 k) := by
  rw [zq_f he]
  exact ⟨rfl, h.no hk hc, fun c hc2 => zC_n (by omega)⟩
theorem zCQ.same {S : zS} {σ τ : zSt} {e : Int32} {v : Value} (h : zCW S σ) (he : e = 0) (k : ∀ c, (c ≤ 16 ∨ c = 25 ∨ c = 26 ∨ 48 ≤ c) → τ c = σ c) : zCQ (zq S e (v, S)) σ (some v) τ := by
  rw [zq_t he]
  exact ⟨rfl, h.keep (fun c hc => k c (by omega)), fun c hc => k c (by omega)⟩
theorem zRQ.same {S : zS} {σ τ : zSt} {e : Int32} {v : Value} (h : zRW S σ) (he : e = 0) (k0 : τ 50 6 = σ 50 6 ∧ τ 50 10 = σ 50 10 ∧ τ 50 11 = σ 50 11) (k : ∀ c, (c < 50 ∨ c = 51 ∨ c = 53 ∨ c = 57 ∨ c = 58 ∨ c = 59) → τ c = σ c) : zRQ (zq S e (v, S)) σ (some v) τ := by
  rw [zq_t he]
  exact ⟨rfl, h.keep k0 (fun c hc => k c (by omega)), fun c hc => k c (by omega)⟩
/-- a call that changes the land alone -/
theorem zCW.land {S : zS} {σ τ : zSt} {r : zRw} (h : zCW S σ) (hr : zrow τ 1 = r) (k : ∀ c, (c = 0 ∨ (9 ≤ c ∧ c ≤ 16) ∨ c = 25 ∨ c = 26 ∨ c = 48 ∨ c = 49) → τ c = σ c) : zCW (r, S.2) τ := by
  obtain ⟨h1, h2, h3, h4, h5⟩ := h
  refine ⟨hr, ?_, ?_, ?_, ?_⟩
  · rw [k 0 (by omega)]
    rcases h2 with h | ⟨q, a, b, c⟩
    · exact Or.inl h
    · exact Or.inr ⟨q, a, b, by rw [← c]; exact zrow_congr (fun c _ _ => k c (by omega))⟩
  · rw [k 25 (by omega), k 26 (by omega)]; exact h3
  · rw [k 0 (by omega), k 48 (by omega)]; exact h4
  · rw [k 49 (by omega)]; exact h5
theorem zRW.land {S : zS} {σ τ : zSt} {r : zRw} (h : zRW S σ) (hr : zro τ 51 = r) (k0 : τ 50 6 = σ 50 6 ∧ τ 50 10 = σ 50 10 ∧ τ 50 11 = σ 50 11) (k : ∀ c, (c = 53 ∨ c = 57 ∨ c = 58 ∨ c = 59) → τ c = σ c) : zRW (r, S.2) τ := by
  obtain ⟨h1, h2, h3, h4, h5⟩ := h
  refine ⟨hr, ?_, ?_, ?_, ?_⟩
  · rw [k0.1]
    rcases h2 with h | ⟨q, a, b, c⟩
    · exact Or.inl h
    · exact Or.inr ⟨q, a, b, by rw [← c]; exact zro_congr (k 53 (by omega))⟩
  · rw [k0.2.1, k 57 (by omega)]; exact h3
  · rw [k0.2.2, k 58 (by omega)]; exact h4
  · rw [k 59 (by omega)]; exact h5
