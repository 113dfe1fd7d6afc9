/-! RULES over written numbers: nI a with a : Nat -/
theorem zinc (i : Nat) : nI i + Int32.ofInt 1 = nI (i + 1) := nI_1 i
def zb (c : Prop) [Decidable c] : Int32 := if c then 1 else 0
theorem zb_t {c : Prop} [Decidable c] (h : c) : zb c = 1 := if_pos h
theorem zb_f {c : Prop} [Decidable c] (h : ¬ c) : zb c = 0 := if_neg h
theorem zb_1 {c : Prop} [Decidable c] (h : c) : nI 1 = zb c := (if_pos h).symm
theorem zb_0 {c : Prop} [Decidable c] (h : ¬ c) : nI 0 = zb c := (if_neg h).symm
theorem zb_ne {c : Prop} [Decidable c] : ¬ zb c = 0 ↔ c := by
  unfold zb
  by_cases h : c <;> simp [h]
theorem zb_eq {c : Prop} [Decidable c] : zb c = 0 ↔ ¬ c := by
  unfold zb
  by_cases h : c <;> simp [h]
theorem vp_ge {x : Int32} {n : Nat} (hn : n < 2 ^ 31) (h0 : ¬ x < 0) (h1 : ¬ nI n ≤ x) : vp_in x n := by
  obtain ⟨j, hj, rfl⟩ := nI_of h0
  exact vp_in_nI (Nat.lt_of_not_le fun q => h1 (nI_le q hj)) hn
/-- an answer, and nothing changed -/
def zP (σ : zSt) (r : Value) : Option Value → zSt → Prop := fun v τ => v = some r ∧ τ = σ
/-- no answer, and the world is σ -/
def zVo (σ : zSt) : Option Value → zSt → Prop := fun v τ => v = none ∧ τ = σ
theorem zP_t {σ : zSt} {c : Prop} [Decidable c] (h : c) : zP σ (.int (zb c)) (some (.int (nI 1))) σ := ⟨by rw [zb_t h]; rfl, rfl⟩
theorem zP_f {σ : zSt} {c : Prop} [Decidable c] (h : ¬ c) : zP σ (.int (zb c)) (some (.int (nI 0))) σ := ⟨by rw [zb_f h]; rfl, rfl⟩
theorem zpos {a : Nat} (h : a < 2 ^ 31) : ¬ nI a < 0 := nI_pos h
/-- any int against a bound -/
theorem zix (x : Int32) (n : Nat) (hn : n < 2 ^ 31) : (x < 0 ∨ (¬ x < 0 ∧ nI n ≤ x)) ∨ ∃ j : Nat, j < n ∧ x = nI j := by
  by_cases h0 : x < 0
  · exact Or.inl (Or.inl h0)
  · by_cases h1 : nI n ≤ x
    · exact Or.inl (Or.inr ⟨h0, h1⟩)
    · obtain ⟨j, hj, rfl⟩ := nI_of h0
      exact Or.inr ⟨j, Nat.lt_of_not_le fun q => h1 (nI_le q hj), rfl⟩
theorem zw_iaddN {M : zM} {n pc : Nat} {X : zCx} {lv : List (Option Value)} {st : List Value} {σ : zSt} {a b : Nat} (hB : zB M n X) (hd : decode M.2.1 pc = .ok (.iadd, 1)) (k : zW X (pc + 1) lv (.int (nI (a + b)) :: st) σ) : zW X pc lv (.int (nI b) :: .int (nI a) :: st) σ := zw_iadd hB hd (by rw [nI_add]; exact k)
theorem zw_imulN {M : zM} {n pc : Nat} {X : zCx} {lv : List (Option Value)} {st : List Value} {σ : zSt} {a b : Nat} (hB : zB M n X) (hd : decode M.2.1 pc = .ok (.imul, 1)) (k : zW X (pc + 1) lv (.int (nI (a * b)) :: st) σ) : zW X pc lv (.int (nI b) :: .int (nI a) :: st) σ := zw_imul hB hd (by rw [pk_mul]; exact k)
theorem zw_isubN {M : zM} {n pc : Nat} {X : zCx} {lv : List (Option Value)} {st : List Value} {σ : zSt} {a b : Nat} (hB : zB M n X) (hd : decode M.2.1 pc = .ok (.isub, 1)) (h : b ≤ a) (k : zW X (pc + 1) lv (.int (nI (a - b)) :: st) σ) : zW X pc lv (.int (nI b) :: .int (nI a) :: st) σ := zw_isub hB hd (by rw [pk_sub h]; exact k)
theorem zw_idivN {M : zM} {n pc : Nat} {X : zCx} {lv : List (Option Value)} {st : List Value} {σ : zSt} {a b : Nat} (hB : zB M n X) (hd : decode M.2.1 pc = .ok (.idiv, 1)) (ha : a < 2 ^ 31) (h0 : 0 < b) (hb : b < 2 ^ 31) (k : zW X (pc + 1) lv (.int (nI (a / b)) :: st) σ) : zW X pc lv (.int (nI b) :: .int (nI a) :: st) σ := zw_idiv hB hd (nI_ne0 h0 hb) (by rw [pk_div ha h0 hb]; exact k)
theorem zw_iremN {M : zM} {n pc : Nat} {X : zCx} {lv : List (Option Value)} {st : List Value} {σ : zSt} {a b : Nat} (hB : zB M n X) (hd : decode M.2.1 pc = .ok (.irem, 1)) (ha : a < 2 ^ 31) (h0 : 0 < b) (hb : b < 2 ^ 31) (k : zW X (pc + 1) lv (.int (nI (a % b)) :: st) σ) : zW X pc lv (.int (nI b) :: .int (nI a) :: st) σ := zw_irem hB hd (nI_ne0 h0 hb) (by rw [pk_rem ha h0 hb]; exact k)
theorem zw_ialdN {M : zM} {n pc : Nat} {X : zCx} {lv : List (Option Value)} {st : List Value} {σ : zSt} {i N j : Nat} (hB : zB M n X) (hd : decode M.2.1 pc = .ok (.iaload, 1)) (hl : zLY[i]? = some (.inl N)) (hj : j < N) (hN : N < 2 ^ 31) (kk : zW X (pc + 1) lv (.int (σ i j) :: st) σ) : zW X pc lv (.int (nI j) :: .ref i :: st) σ := zw_iald hB hd hl (vp_in_nI hj hN) (by rw [nI_clamp (Nat.lt_trans hj hN)]; exact kk)
theorem zw_iastN {M : zM} {n pc : Nat} {X : zCx} {lv : List (Option Value)} {st : List Value} {σ : zSt} {i N j : Nat} {x : Int32} (hB : zB M n X) (hd : decode M.2.1 pc = .ok (.iastore, 1)) (hl : zLY[i]? = some (.inl N)) (hj : j < N) (hN : N < 2 ^ 31) (kk : zW X (pc + 1) lv st (zC σ i (upd (σ i) j x))) : zW X pc lv (.int x :: .int (nI j) :: .ref i :: st) σ := zw_iast hB hd hl (vp_in_nI hj hN) (by rw [nI_clamp (Nat.lt_trans hj hN)]; exact kk)
theorem zw_ialdV {M : zM} {n pc : Nat} {X : zCx} {lv : List (Option Value)} {st : List Value} {σ : zSt} {i N j : Nat} {x : Int32} (hB : zB M n X) (hd : decode M.2.1 pc = .ok (.iaload, 1)) (hl : zLY[i]? = some (.inl N)) (hj : j < N) (hN : N < 2 ^ 31) (hx : σ i j = x) (kk : zW X (pc + 1) lv (.int x :: st) σ) : zW X pc lv (.int (nI j) :: .ref i :: st) σ := zw_ialdN hB hd hl hj hN (by rw [hx]; exact kk)
theorem zw_getfV {M : zM} {n pc : Nat} {X : zCx} {lv : List (Option Value)} {st : List Value} {σ : zSt} {idx ci k i : Nat} {fs : List (Option Nat)} {x : Int32} (hB : zB M n X) (hd : decode M.2.1 pc = .ok (.getfield idx, 3)) (hf : zF M.1.cls idx ci k) (hl : zLY[i]? = some (.inr (ci, fs))) (hk : fs[k]? = some none) (hx : σ i k = x) (kk : zW X (pc + 3) lv (.int x :: st) σ) : zW X pc lv (.ref i :: st) σ := zw_getfI hB hd hf hl hk (by rw [hx]; exact kk)
theorem zw_eqI {M : zM} {n pc : Nat} {X : zCx} {lv : List (Option Value)} {st : List Value} {σ : zSt} {x y : Int32} (h : x = y) (k : zW X pc lv (.int y :: st) σ) : zW X pc lv (.int x :: st) σ := by rw [h]; exact k
theorem zw_icmp_ltN {M : zM} {n pc : Nat} {X : zCx} {lv : List (Option Value)} {st : List Value} {σ : zSt} {a b : Nat} {off : Int} {tgt : Nat} (hB : zB M n X) (hd : decode M.2.1 pc = .ok (.if_icmp .lt off, 3)) (ht : (pc : Int) + off = (tgt : Int)) (ha : a < 2 ^ 31) (hb : b < 2 ^ 31) (kt : a < b → zW X tgt lv st σ) (kf : b ≤ a → zW X (pc + 3) lv st σ) : zW X pc lv (.int (nI b) :: .int (nI a) :: st) σ := zw_icmp_lt hB hd ht (fun q => kt ((nI_ltI ha hb).mp q)) (fun q => kf (Nat.le_of_not_lt fun z => q ((nI_ltI ha hb).mpr z)))
theorem zw_icmp_geN {M : zM} {n pc : Nat} {X : zCx} {lv : List (Option Value)} {st : List Value} {σ : zSt} {a b : Nat} {off : Int} {tgt : Nat} (hB : zB M n X) (hd : decode M.2.1 pc = .ok (.if_icmp .ge off, 3)) (ht : (pc : Int) + off = (tgt : Int)) (ha : a < 2 ^ 31) (hb : b < 2 ^ 31) (kt : b ≤ a → zW X tgt lv st σ) (kf : a < b → zW X (pc + 3) lv st σ) : zW X pc lv (.int (nI b) :: .int (nI a) :: st) σ := zw_icmp_ge hB hd ht (fun q => kt ((nI_leI hb ha).mp q)) (fun q => kf (Nat.lt_of_not_le fun z => q ((nI_leI hb ha).mpr z)))
theorem zw_icmp_gtN {M : zM} {n pc : Nat} {X : zCx} {lv : List (Option Value)} {st : List Value} {σ : zSt} {a b : Nat} {off : Int} {tgt : Nat} (hB : zB M n X) (hd : decode M.2.1 pc = .ok (.if_icmp .gt off, 3)) (ht : (pc : Int) + off = (tgt : Int)) (ha : a < 2 ^ 31) (hb : b < 2 ^ 31) (kt : b < a → zW X tgt lv st σ) (kf : a ≤ b → zW X (pc + 3) lv st σ) : zW X pc lv (.int (nI b) :: .int (nI a) :: st) σ := zw_icmp_gt hB hd ht (fun q => kt ((nI_ltI hb ha).mp q)) (fun q => kf (Nat.le_of_not_lt fun z => q ((nI_ltI hb ha).mpr z)))
theorem zw_icmp_leN {M : zM} {n pc : Nat} {X : zCx} {lv : List (Option Value)} {st : List Value} {σ : zSt} {a b : Nat} {off : Int} {tgt : Nat} (hB : zB M n X) (hd : decode M.2.1 pc = .ok (.if_icmp .le off, 3)) (ht : (pc : Int) + off = (tgt : Int)) (ha : a < 2 ^ 31) (hb : b < 2 ^ 31) (kt : a ≤ b → zW X tgt lv st σ) (kf : b < a → zW X (pc + 3) lv st σ) : zW X pc lv (.int (nI b) :: .int (nI a) :: st) σ := zw_icmp_le hB hd ht (fun q => kt ((nI_leI ha hb).mp q)) (fun q => kf (Nat.lt_of_not_le fun z => q ((nI_leI ha hb).mpr z)))
theorem zw_icmp_eqN {M : zM} {n pc : Nat} {X : zCx} {lv : List (Option Value)} {st : List Value} {σ : zSt} {a b : Nat} {off : Int} {tgt : Nat} (hB : zB M n X) (hd : decode M.2.1 pc = .ok (.if_icmp .eq off, 3)) (ht : (pc : Int) + off = (tgt : Int)) (ha : a < 2 ^ 31) (hb : b < 2 ^ 31) (kt : a = b → zW X tgt lv st σ) (kf : a ≠ b → zW X (pc + 3) lv st σ) : zW X pc lv (.int (nI b) :: .int (nI a) :: st) σ := zw_icmp_eq hB hd ht (fun q => kt ((nI_eq ha hb).mp q)) (fun q => kf (fun z => q ((nI_eq ha hb).mpr z)))
theorem zw_icmp_neN {M : zM} {n pc : Nat} {X : zCx} {lv : List (Option Value)} {st : List Value} {σ : zSt} {a b : Nat} {off : Int} {tgt : Nat} (hB : zB M n X) (hd : decode M.2.1 pc = .ok (.if_icmp .ne off, 3)) (ht : (pc : Int) + off = (tgt : Int)) (ha : a < 2 ^ 31) (hb : b < 2 ^ 31) (kt : a ≠ b → zW X tgt lv st σ) (kf : a = b → zW X (pc + 3) lv st σ) : zW X pc lv (.int (nI b) :: .int (nI a) :: st) σ := zw_icmp_ne hB hd ht (fun q => kt (fun z => q ((nI_eq ha hb).mpr z))) (fun q => kf ((nI_eq ha hb).mp q))
theorem zw_if_eqB {M : zM} {n pc : Nat} {X : zCx} {lv : List (Option Value)} {st : List Value} {σ : zSt} {c : Prop} [Decidable c] {off : Int} {tgt : Nat} (hB : zB M n X) (hd : decode M.2.1 pc = .ok (.ifCond .eq off, 3)) (ht : (pc : Int) + off = (tgt : Int)) (kt : ¬ c → zW X tgt lv st σ) (kf : c → zW X (pc + 3) lv st σ) : zW X pc lv (.int (zb c) :: st) σ := zw_if_eq hB hd ht (fun q => kt (zb_eq.mp q)) (fun q => kf (zb_ne.mp q))
theorem zw_if_neB {M : zM} {n pc : Nat} {X : zCx} {lv : List (Option Value)} {st : List Value} {σ : zSt} {c : Prop} [Decidable c] {off : Int} {tgt : Nat} (hB : zB M n X) (hd : decode M.2.1 pc = .ok (.ifCond .ne off, 3)) (ht : (pc : Int) + off = (tgt : Int)) (kt : c → zW X tgt lv st σ) (kf : ¬ c → zW X (pc + 3) lv st σ) : zW X pc lv (.int (zb c) :: st) σ := zw_if_ne hB hd ht (fun q => kt (zb_ne.mp q)) (fun q => kf (zb_eq.mp q))
