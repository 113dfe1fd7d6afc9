/-! THE STATE stays a state -/
theorem zOk_no {S : zS} {e : Int32} (h : zOk S) : zOk (zNo S e) := h
theorem zOk_q {S : zS} {e : Int32} {a : Value × zS} (h : zOk S) (g : e = 0 → zOk a.2) : zOk (zq S e a).2 := by
  unfold zq
  split
  · exact g (by assumption)
  · exact zOk_no h
theorem zOk_qL {S : zS} {e : Int32} {a : Value × zS} (h : zOk S) (g : e = 0 → zOk a.2) : zOk (zqL S e a).2 := by
  unfold zqL
  split
  · exact g (by assumption)
  · exact zOk_no h
theorem zOk_r {S : zS} {r : zRw} (h : zOk S) (g : zLn r) : zOk (r, S.2) := ⟨g, h.2.1, h.2.2.1, h.2.2.2⟩
theorem zGd_td {r : zRw} {F P p t : Nat} (h : zGd r F P) (hp : p < P) (ht : t ≤ 20) : zGd (upd r (25 + 4 * p) (nI t)) F P := by
  have hP := h.P6
  have o : ∀ k, k ≠ 25 + 4 * p → upd r (25 + 4 * p) (nI t) k = r k := fun k hk => zupd_o hk
  refine h.ofS (fun k hk => o k (by omega)) (by rw [o 3 (by omega)]; exact h.r3) (fun k hk => by rw [o _ (by omega)]; exact h.ht hk) (fun q hq => ⟨o _ (by omega), o _ (by omega)⟩) (fun q hq => ?_) (fun q hq => o _ (by omega)) (fun k hk => by rw [o k (by omega)]; exact h.out hk)
  by_cases e : q = p
  · rw [e, zupd_s]; exact ⟨t, ht, rfl⟩
  · rw [o _ (by omega)]; exact h.td hq
theorem zxr_ok {g : Nat → Nat} {L : Nat} : ∀ n b m r m' r', zpf g L n b = none → zLn r → zxr g L n b m r = (none, m', r') → zLn r' := by
  intro n
  induction n with
  | zero => intro b m r m' r' h _ _; cases h
  | succ n ih =>
    intro b m r m' r' h hr hx
    have h2 := zpf_s h
    cases e : zdo g b r with
    | none => rw [zxr_n e] at hx; cases hx
    | some q =>
      have hq := zdo_ok hr h2.1 e
      by_cases c : znx g b < L
      · rw [zxr_s e c] at hx
        exact ih _ _ _ _ _ (h2.2 c) hq hx
      · rw [zxr_e e c] at hx
        cases hx
        exact hq
theorem zla_ok {l : List Int32} {r : zRw} (h : zLn r) : zLn (zla l r).2 := by
  cases e : zpf (zlc l) l.length (l.length + 1) 0 with
  | some q => rw [zla_f e]; exact h
  | none =>
    obtain ⟨x, m, r'⟩ : Option Nat × Nat × zRw := zxr (zlc l) l.length (l.length + 1) 0 0 r
    cases e2 : zxr (zlc l) l.length (l.length + 1) 0 0 r with
    | mk a b =>
      cases b with
      | mk m r' =>
        cases a with
        | none => rw [zla_o e e2]; exact zxr_ok _ _ _ _ _ _ e h e2
        | some q => rw [zla_b e e2]; exact h
theorem zOk_land {S : zS} (h : zOk S) : zOk (q_land S).2 := ⟨zla_ok h.1, h.2.1, ⟨Nat.zero_le _, fun x hx => absurd hx (List.not_mem_nil)⟩, h.2.2.2⟩
theorem zOk_sits {S : zS} (h : zOk S) (p f : Int32) : zOk (q_sits S p f).2 := by
  obtain ⟨⟨F, P, hg⟩, y⟩ := id h.1
  refine zOk_q h (fun e => zOk_r h ?_)
  rw [hg.nF, hg.nP] at e
  obtain ⟨z1, z2⟩ := znb_0 e
  have hF := hg.F6
  have hP := hg.P6
  obtain ⟨j, hj, rfl⟩ := zIn_j (by omega) z1
  obtain ⟨i, hi, rfl⟩ := zIn_j (by omega) z2
  rw [nI_clamp (by omega), nI_clamp (by omega)]
  exact h.1.y (zGd_St hg hj hi) (by unfold zSt1; rw [if_neg (by omega), if_neg (by omega)])
theorem zOk_leaves {S : zS} (h : zOk S) (p : Int32) : zOk (q_leaves S p).2 := by
  obtain ⟨⟨F, P, hg⟩, y⟩ := id h.1
  refine zOk_q h (fun e => zOk_r h ?_)
  have hP := hg.P6
  rw [hg.nP] at e
  unfold w_leaves at e
  by_cases c : zIn p P
  · obtain ⟨j, hj, rfl⟩ := zIn_j (by omega) c
    rw [nI_clamp (by omega)]
    exact h.1.y (zGd_none hg hj) (zupd_o (by omega))
  · rw [if_neg c] at e; exact absurd e (by decide)
theorem zOk_hearts {S : zS} (h : zOk S) (f s v : Int32) : zOk (q_hearts S f s v).2 := by
  obtain ⟨⟨F, P, hg⟩, y⟩ := id h.1
  refine zOk_q h (fun e => zOk_r h ?_)
  have hF := hg.F6
  rw [hg.nF] at e
  obtain ⟨e1, e2, -⟩ := zfo_0 e
  obtain ⟨z1, z2⟩ := znb_0 e1
  obtain ⟨j, hj, rfl⟩ := zIn_j (by omega) z1
  obtain ⟨i, hi, rfl⟩ := zIn_j (by omega) z2
  obtain ⟨x, -, hx, rfl⟩ := zir_0 (by omega) (by omega) e2
  rw [nI_clamp (by omega), nI_clamp (by omega)]
  exact h.1.y (zGd_hs hg (by omega) hi hx) (zupd_o (by omega))
theorem zOk_steps {S : zS} (h : zOk S) (v : Int32) : zOk (q_steps S v).2 := by
  obtain ⟨⟨F, P, hg⟩, y⟩ := id h.1
  refine zOk_q h (fun e => zOk_r h ?_)
  obtain ⟨x, -, hx, rfl⟩ := zir_0 (by omega) (by omega) e
  exact h.1.y (zGd_step hg hx) (zupd_o (by omega))
theorem zOk_tires {S : zS} (h : zOk S) (p v : Int32) : zOk (q_tires S p v).2 := by
  obtain ⟨⟨F, P, hg⟩, y⟩ := id h.1
  refine zOk_q h (fun e => zOk_r h ?_)
  have hP := hg.P6
  rw [hg.nP] at e
  obtain ⟨e1, e2, -⟩ := zfo_0 e
  obtain ⟨j, hj, rfl⟩ := zIn_j (by omega) (znb_0 e1)
  obtain ⟨x, -, hx, rfl⟩ := zir_0 (by omega) (by omega) e2
  rw [nI_clamp (by omega)]
  exact h.1.y (zGd_td hg hj hx) (zupd_o (by omega))
theorem zOk_turn {S : zS} (h : zOk S) (p k g : Int32) : zOk (q_turn S p k g).2 := by
  obtain ⟨⟨F, P, hg⟩, y⟩ := id h.1
  refine zOk_q h (fun e => zOk_r h ?_)
  have hP := hg.P6
  rw [hg.nP] at e
  obtain ⟨e1, e2, e3⟩ := zfo_0 e
  obtain ⟨j, hj, rfl⟩ := zIn_j (by omega) (znb_0 e1)
  obtain ⟨i, hi, rfl⟩ := zou_0 (by omega) e2
  obtain ⟨x, -, hx, rfl⟩ := zir_0 (by omega) (by omega) e3
  rw [nI_clamp (by omega)]
  have g1 : zGd (upd S.1 (23 + 4 * j) (nI i)) F P := zGd_kf (w := 0) hg hj (by omega)
  have g2 := zGd_kf (w := 1) (k := x) g1 hj (by omega)
  rw [show 23 + 4 * j + 1 = 24 + 4 * j by omega] at g2
  exact h.1.y g2 ((zupd_o (by omega)).trans (zupd_o (by omega)))
theorem zOk_years {S : zS} (h : zOk S) (m : Int32) : zOk (q_years S m).2 := by
  obtain ⟨⟨F, P, hg⟩, y, hy, ey⟩ := id h.1
  refine zOk_q h (fun e => zOk_r h ?_)
  obtain ⟨e1, e2, -⟩ := zfo_0 e
  obtain ⟨x, hx1, hx, rfl⟩ := zir_0 (by omega) (by omega) e1
  have c := zrO_0 e2
  rw [ey, pk_sub (by omega), nI_leI (by omega) (by omega)] at c
  rw [nI_clamp (by omega)]
  exact ⟨⟨F, P, zGd_Ys hg _⟩, y + x, by omega, zYs_4 hg ey _⟩
theorem zOk_letter {S : zS} (h : zOk S) (v : Int32) : zOk (q_letter S v).2 := by
  refine zOk_q h (fun e => ?_)
  obtain ⟨e1, e2, -⟩ := zfo_0 e
  obtain ⟨x, -, hx, rfl⟩ := zir_0 (by omega) (by omega) e1
  have c := zrO_0 e2
  refine ⟨h.1, h.2.1, ⟨by show (S.2.2.1 ++ [nI x]).length ≤ 96; rw [List.length_append]; exact c, fun z hz => ?_⟩, h.2.2.2⟩
  rcases List.mem_append.mp hz with q | q
  · exact h.2.2.1.2 z q
  · exact ⟨x, hx, List.mem_singleton.mp q⟩
theorem zOk_row {S : zS} (h : zOk S) (v : Int32) : zOk (q_row S v).2 := by
  refine zOk_q h (fun e => ?_)
  obtain ⟨e1, e2, -⟩ := zfo_0 e
  obtain ⟨x, -, hx, rfl⟩ := zir_0 (by omega) (by omega) e1
  have c := zrO_0 e2
  refine ⟨h.1, h.2.1, h.2.2.1, by show (S.2.2.2.1 ++ [nI x]).length ≤ 16; rw [List.length_append]; exact c, fun z hz => ?_⟩
  rcases List.mem_append.mp hz with q | q
  · exact h.2.2.2.2 z q
  · exact ⟨x, hx, List.mem_singleton.mp q⟩
theorem zOk_noRow {S : zS} (h : zOk S) : zOk (S.1, S.2.1, S.2.2.1, [], S.2.2.2.2) := ⟨h.1, h.2.1, h.2.2.1, Nat.zero_le _, fun x hx => absurd hx (List.not_mem_nil)⟩
theorem zOk_image {S : zS} (h : zOk S) : zOk (q_image S).2 := ⟨h.1, fun q e => (by cases e; exact h.1), h.2.2.1, h.2.2.2⟩
theorem zOk_on {S : zS} (h : zOk S) : zOk (q_on S).2 := by
  unfold q_on
  cases e : S.2.1 with
  | none => exact zOk_q h (fun _ => h)
  | some q => exact ⟨h.2.1 q e, h.2.1, h.2.2.1, h.2.2.2⟩

