/-! CORE: a world of int cells that never grows; a judgement over it; one rule an instruction. -/
abbrev zSt : Type := Nat → Nat → Int32
abbrev zEn : Type := va_G × ClassId × (Nat → Nat)
abbrev zL : Type := Nat ⊕ (Nat × List (Option Nat))
abbrev zcl : List vw_C := [(RX1, TX1, 13), (RX2, TX2, 2), (RX3, TX3, 6), (RX4, TX4, 1), (RX5, TX5, 9), (RX6, TX6, 18)]
def zLY : List zL := [(.inr (4, [some 1, some 9, none, some 17, some 25, some 27, some 48, none, some 49])),
  (.inr (0, [none, none, none, none, none, none, some 2, some 3, some 4, some 5, some 6, some 7, some 8])),
  (.inl 18),
  (.inl 6),
  (.inl 6),
  (.inl 6),
  (.inl 6),
  (.inl 6),
  (.inl 6),
  (.inr (0, [none, none, none, none, none, none, some 10, some 11, some 12, some 13, some 14, some 15, some 16])),
  (.inl 18),
  (.inl 6),
  (.inl 6),
  (.inl 6),
  (.inl 6),
  (.inl 6),
  (.inl 6),
  (.inr (0, [none, none, none, none, none, none, some 18, some 19, some 20, some 21, some 22, some 23, some 24])),
  (.inl 18),
  (.inl 6),
  (.inl 6),
  (.inl 6),
  (.inl 6),
  (.inl 6),
  (.inl 6),
  (.inr (1, [some 26, none])),
  (.inl 96),
  (.inr (2, [some 28, some 44, some 36, some 46, some 47, none])),
  (.inr (0, [none, none, none, none, none, none, some 29, some 30, some 31, some 32, some 33, some 34, some 35])),
  (.inl 18),
  (.inl 6),
  (.inl 6),
  (.inl 6),
  (.inl 6),
  (.inl 6),
  (.inl 6),
  (.inr (0, [none, none, none, none, none, none, some 37, some 38, some 39, some 40, some 41, some 42, some 43])),
  (.inl 18),
  (.inl 6),
  (.inl 6),
  (.inl 6),
  (.inl 6),
  (.inl 6),
  (.inl 6),
  (.inr (3, [some 45])),
  (.inl 448),
  (.inl 7),
  (.inl 8),
  (.inl 16),
  (.inl 7),
  (.inr (5, [some 51, some 52, some 53, some 54, some 55, some 56, none, some 57, some 58, some 59, none, none, none, some 60, some 61, some 62, none, none])),
  (.inl 47),
  (.inl 47),
  (.inl 47),
  (.inl 47),
  (.inl 6),
  (.inl 6),
  (.inl 96),
  (.inl 16),
  (.inl 7),
  (.inl 3),
  (.inl 6),
  (.inl 6)]
def zV (E : zEn) : Value → Value
  | .ref j => .ref (E.2.2 j)
  | v => v
theorem zV_cat (E : zEn) (v : Value) : (zV E v).category = v.category := by cases v <;> rfl
def zfld (E : zEn) (σ : zSt) (i k : Nat) : Option Nat → Value
  | none => .int (σ i k)
  | some j => .ref (E.2.2 j)
def zcell (E : zEn) (σ : zSt) (i : Nat) : zL → va_E
  | .inl n => .inl (E.2.1, n, .inl (σ i))
  | .inr (ci, fs) => .inr (ci, fs.mapIdx (fun k f => zfld E σ i k f))
def zws (E : zEn) (σ : zSt) : va_W := zLY.mapIdx (fun i d => (E.2.2 i, zcell E σ i d))
theorem zws_at {E : zEn} {σ : zSt} {i : Nat} {d : zL} (h : zLY[i]? = some d) : (zws E σ)[i]? = some (E.2.2 i, zcell E σ i d) := by
  simp [zws, h]
theorem zcell_congr {E : zEn} {σ τ : zSt} {i : Nat} (h : σ i = τ i) (d : zL) : zcell E σ i d = zcell E τ i d := by
  cases d with
  | inl n => simp [zcell, h]
  | inr q =>
    obtain ⟨ci, fs⟩ := q
    have e : (fun k f => zfld E σ i k f) = (fun k f => zfld E τ i k f) := by
      funext k f
      cases f <;> simp [zfld, h]
    simp [zcell, e]
theorem zws_set {E : zEn} {σ τ : zSt} {i : Nat} {d : zL} (h : zLY[i]? = some d) (ho : ∀ a, a ≠ i → τ a = σ a) : (zws E σ).set i (E.2.2 i, zcell E τ i d) = zws E τ := by
  apply List.ext_getElem?
  intro j
  rw [List.getElem?_set]
  by_cases hj : i = j
  · subst hj
    have hl : i < (zws E σ).length := (List.getElem?_eq_some_iff.mp (zws_at (E := E) (σ := σ) h)).1
    rw [if_pos rfl, if_pos hl, zws_at h]
  · rw [if_neg hj]
    simp only [zws, List.getElem?_mapIdx]
    cases hd : zLY[j]? with
    | none => rfl
    | some d' => simp [zcell_congr (E := E) (ho j (fun e => hj e.symm)) d']
def zA (E : zEn) : Nat → Prop := fun q => ∃ i, i < 63 ∧ q = E.2.2 i
def zI (E : zEn) : Prop := ∀ i j, i < 63 → j < 63 → E.2.2 i = E.2.2 j → i = j
theorem zLY_len : zLY.length = 63 := by decide +kernel
theorem zws_inv {E : zEn} {σ : zSt} {i : Nat} {q : Nat × va_E} (h : (zws E σ)[i]? = some q) : i < 63 ∧ q.1 = E.2.2 i := by
  simp only [zws, List.getElem?_mapIdx, Option.map_eq_some_iff] at h
  obtain ⟨d, h1, h2⟩ := h
  refine ⟨?_, by rw [← h2]⟩
  have := (List.getElem?_eq_some_iff.mp h1).1
  rwa [zLY_len] at this
theorem zD {E : zEn} (hI : zI E) (σ : zSt) : va_D (zA E) (zws E σ) := by
  refine ⟨fun i j p q hi hj e => ?_, fun k q hk => ?_⟩
  · have h1 := zws_inv hi
    have h2 := zws_inv hj
    exact hI i j h1.1 h2.1 (by rw [← h1.2, ← h2.2, e])
  · have h1 := zws_inv hk
    exact ⟨k, h1.1, h1.2⟩
/-- one cell's contents become f -/
def zC (σ : zSt) (i : Nat) (f : Nat → Int32) : zSt := fun a => if a = i then f else σ a
theorem zC_s {σ : zSt} {i : Nat} {f : Nat → Int32} : zC σ i f i = f := by simp [zC]
theorem zC_n {σ : zSt} {i a : Nat} {f : Nat → Int32} (h : a ≠ i) : zC σ i f a = σ a := by simp [zC, h]
/-! what never changes: the String constants (object 100 + i, bytes 110 + i), two tables (120, 121), the statics -/
def zlen : List Nat := [0, 7, 3, 3, 2, 5, 6]
def zbyt : List (List Int32) := [[], [100, 100, 100, 100, 100, 100, 59], [107, 100, 59], [100, 100, 59], [100, 59], [100, 100, 100, 100, 59], [119, 116, 114, 99, 102, 109]]
def zgiv : List Int32 := [-3, 1, 0, 0, -3, 1, 1, 0, -4, 3, -1, 0, 0, 0, 0, 2, 0, 0]
def ztir : List Int32 := [2, 1, 2, 1, 3, 4]
def zstr : List (String × Nat × String × Nat) := [("RotationOfFarmers$Letters", 36, "", 0), ("RotationOfFarmers$Letters", 50, "dddddd;", 1), ("RotationOfFarmers$Letters", 52, "kd;", 2), ("RotationOfFarmers$Letters", 54, "dd;", 3), ("RotationOfFarmers$Letters", 56, "d;", 4), ("RotationOfFarmers$Letters", 58, "dddd;", 5), ("RotationOfFarmers$Kinds", 9, "wtrcfm", 6)]
def zK (E : zEn) (U : State) (H : Heap) : Prop :=
  vk_S 7 zlen zbyt (fun i => E.2.2 (100 + i)) (fun i => E.2.2 (110 + i)) (zA E) U H ∧
  (∀ q ∈ zstr, vk_R q.1 q.2.1 q.2.2.1 (E.2.2 (100 + q.2.2.2)) U) ∧
  (va_Z "RotationOfFarmers$Kinds" "GIVING" "[I" (.ref (E.2.2 120)) (zA E) U H ∧ va_T .int (E.2.2 120) 18 (fun j => .int (zgiv.getD j 0)) (zA E) U H) ∧
  (va_Z "RotationOfFarmers$Kinds" "TIRING" "[I" (.ref (E.2.2 121)) (zA E) U H ∧ va_T .int (E.2.2 121) 6 (fun j => .int (ztir.getD j 0)) (zA E) U H) ∧
  va_Z "java/lang/String" "COMPACT_STRINGS" "Z" (.int 1) (zA E) U H ∧
  (va_Z "jdk/internal/util/Preconditions" "SIOOBE_FORMATTER" "Ljava/util/function/BiFunction;" .null (zA E) U H ∨ va_Z "jdk/internal/util/Preconditions" "SIOOBE_FORMATTER" "Ljava/util/function/BiFunction;" (.ref (E.2.2 130)) (zA E) U H)
theorem zK.to {E : zEn} {s U : State} {H H1 : Heap} (hW : s.WarmedH U.vm) (h : zK E s H) (hq : ∀ a : Nat, a < H.size → ¬ zA E a → H1[a]? = H[a]?) : zK E U H1 :=
  ⟨(h.1.moved hW.alike).kept hq, fun q hm => (h.2.1 q hm).warm hW, ⟨(h.2.2.1.1.moved hW.alike).kept hq, (h.2.2.1.2.moved hW.alike).kept hq⟩, ⟨(h.2.2.2.1.1.moved hW.alike).kept hq, (h.2.2.2.1.2.moved hW.alike).kept hq⟩, (h.2.2.2.2.1.moved hW.alike).kept hq, h.2.2.2.2.2.imp (fun z => (z.moved hW.alike).kept hq) (fun z => (z.moved hW.alike).kept hq)⟩
theorem zK.same {E : zEn} {u U : State} {H : Heap} (hv : U.vm = u.vm) (h : zK E u H) : zK E U H := by
  have ha : u.vm.Alike U.vm := by rw [hv]; exact Vm.Alike.refl _
  exact ⟨h.1.moved ha, fun q hm => (h.2.1 q hm).same hv, ⟨h.2.2.1.1.moved ha, h.2.2.1.2.moved ha⟩, ⟨h.2.2.2.1.1.moved ha, h.2.2.2.1.2.moved ha⟩, h.2.2.2.2.1.moved ha, h.2.2.2.2.2.imp (fun z => z.moved ha) (fun z => z.moved ha)⟩
/-! the context of a walk -/
abbrev zCx : Type := (Program × Launch × Env × Room) × (State × MethodId × Array Value × List Frame) × (Method × Code) × zEn × (Nat × Nat) × (State → Prop)
abbrev zp (X : zCx) : Program := X.1.1
abbrev zl (X : zCx) : Launch := X.1.2.1
abbrev ze (X : zCx) : Env := X.1.2.2.1
abbrev zR (X : zCx) : Room := X.1.2.2.2
abbrev zs (X : zCx) : State := X.2.1.1
abbrev zm (X : zCx) : MethodId := X.2.1.2.1
abbrev zar (X : zCx) : Array Value := X.2.1.2.2.1
abbrev zbl (X : zCx) : List Frame := X.2.1.2.2.2
abbrev zmt (X : zCx) : Method := X.2.2.1.1
abbrev zco (X : zCx) : Code := X.2.2.1.2
abbrev zE (X : zCx) : zEn := X.2.2.2.1
abbrev zce (X : zCx) : Nat := X.2.2.2.2.1.1
abbrev zsl (X : zCx) : Nat := X.2.2.2.2.1.2
abbrev zZ (X : zCx) : State → Prop := X.2.2.2.2.2
def zQ (E : zEn) (Q : Option Value → zSt → Prop) : Array Value → State → Outcome → State → Prop := fun _ st oc t =>
  (∃ (v : Option Value) (τ : zSt), oc = .returned (v.map (zV E)) ∧ Q v τ ∧ va_P E.1 zcl (zws E τ) t.heap) ∧ va_F (zA E) st t
def zWd (E : zEn) (σ : zSt) (U : State) : Prop := va_P E.1 zcl (zws E σ) U.heap ∧ va_K E.1 zcl [(E.2.1, .int)] U ∧ zI E ∧ zK E U U.heap
def zrm (n : Nat) : Room := { frames := n, cells := 0, slots := 0, locals := 64 * n }
/-- what holds of a walk of method M with n calls' room below it -/
def zB (M : zM) (n : Nat) (X : zCx) : Prop :=
  (zp X).tables.exec = Jvm.exec ∧ (zco X).code = M.2.1 ∧ (zmt X).sig.returnType = M.2.2.2 ∧ (zco X).maxLocals = M.2.2.1 ∧ (zs X).vm.findClass M.1.cls = some (zm X).cls ∧ (∀ w ∈ zts, w.before (zar X) (zs X) = true) ∧
  va_K (zE X).1 zcl [((zE X).2.1, .int)] (zs X) ∧ zI (zE X) ∧ zK (zE X) (zs X) (zs X).heap ∧ (n ≤ (zR X).frames ∧ 64 * n ≤ (zR X).locals) ∧ (zce X ≤ (zR X).cells ∧ zsl X ≤ (zR X).slots)
/-- the context is a method's own: its end is Q -/
def zRt (X : zCx) (Q : Option Value → zSt → Prop) : Prop :=
  zZ X = MQ (zbl X) (zQ (zE X) Q) (zar X) (zs X) (zce X) (zsl X) (zA (zE X)) ∧ (zmt X).locks = false
def zLoc (X : zCx) (lv : List (Option Value)) (ls : Array Slot) : Prop :=
  ls.size = (zco X).maxLocals ∧ lv.length = ls.size ∧ lv_wf ls ∧ ∀ (i : Nat) (v : Value), lv[i]? = some (some v) → ls[i]? = some (.val (zV (zE X) v))
/-- from pc on, with these locals, this stack, this world, the machine comes to the context's end -/
def zW (X : zCx) (pc : Nat) (lv : List (Option Value)) (st : List Value) (σ : zSt) : Prop :=
  ∀ (H : Heap) (locs : List Loc) (ls : Array Slot), va_P (zE X).1 zcl (zws (zE X) σ) H → va_S (zA (zE X)) (zs X).heap H locs → zLoc X lv ls →
    W (zp X) (zl X) (ze X) (zR X) (zs X) (zm X) (zar X) (zbl X) (zmt X) (zco X) H locs (zce X) (zsl X) (zZ X) (F0 (zm X) pc ls (st.map (zV (zE X))))
/-- method M, called with these arguments in this world, answers and leaves the world as Q says -/
def zSem (n : Nat) (M : zM) (as : List Value) (σ : zSt) (Q : Option Value → zSt → Prop) : Prop :=
  ∀ (l : Launch) (E : zEn), Met l M.1 (Cond.code M.1 M.2.1 M.2.2.1 M.2.2.2 :: zts) (zrm n) (va_Pc (as.map (zV E)) (fun U => zWd E σ U)) (zQ E Q) 0 0 (zA E)
def zflat (as : List Value) : List (Option Value) := as.flatMap fun v => if v.category = 2 then [some v, none] else [some v]
def zent (as : List Value) (n : Nat) : List (Option Value) := zflat as ++ List.replicate (n - (zflat as).length) none
theorem zflat_sl (E : zEn) (as : List Value) : (zflat as).length = (lg_sl (as.map (zV E))).length ∧ ∀ (i : Nat) (v : Value), (zflat as)[i]? = some (some v) → (lg_sl (as.map (zV E)))[i]? = some (.val (zV E v)) := by
  induction as with
  | nil => exact ⟨rfl, fun i v h => by simp [zflat] at h⟩
  | cons a t ih =>
    obtain ⟨h1, h2⟩ := ih
    have ea : zflat (a :: t) = (if a.category = 2 then [some a, none] else [some a]) ++ zflat t := rfl
    have eb : lg_sl ((a :: t).map (zV E)) = (if a.category = 2 then [.val (zV E a), .second] else [.val (zV E a)]) ++ lg_sl (t.map (zV E)) := by
      simp only [lg_sl, List.map_cons, List.flatMap_cons, zV_cat]
    rw [ea, eb]
    by_cases hc : a.category = 2
    · rw [if_pos hc, if_pos hc]
      refine ⟨by simp [h1], fun i v h => ?_⟩
      match i, h with
      | 0, h => simp at h; simp [h]
      | 1, h => simp at h
      | i + 2, h => exact h2 i v h
    · rw [if_neg hc, if_neg hc]
      refine ⟨by simp [h1], fun i v h => ?_⟩
      match i, h with
      | 0, h => simp at h; simp [h]
      | i + 1, h => exact h2 i v h
theorem zSem.of {n : Nat} {M : zM} {as : List Value} {σ : zSt} {Q : Option Value → zSt → Prop} (hy : plainName M.1.cls = true) (hn : (zflat as).length ≤ M.2.2.1)
    (h : ∀ X, zB M n X → zRt X Q → zW X 0 (zent as M.2.2.1) [] σ) : zSem n M as σ Q := by
  intro l E
  refine Met.ofW (cc := M.2.1) (maxL := M.2.2.1) (ret := M.2.2.2) hy rfl ?_
  intro p e s m args below meth c s₁ B hml hv
  obtain ⟨rfl, hP, hK, hI, hZ⟩ := hv
  have hts := atoms_spec (ws := Cond.code M.1 M.2.1 M.2.2.1 M.2.2.2 :: zts) B.pre
  have hsl := zflat_sl E as
  have k := h ((p, l, e, zrm n), (s, m, (as.map (zV E)).toArray, below), (meth, c), E, (0, 0), MQ below (zQ E Q) (as.map (zV E)).toArray s 0 0 (zA E))
    ⟨B.exec, B.bytes, B.returns, hml, findClass_of_methodNamed B.named, fun w hw => hts w (List.mem_cons_of_mem _ hw), hK, hI, hZ, ⟨Nat.le_refl _, Nat.le_refl _⟩, ⟨Nat.le_refl _, Nat.le_refl _⟩⟩
    ⟨rfl, B.notSynchronized⟩ s.heap [] ((lg_sl (as.map (zV E)) ++ List.replicate (M.2.2.1 - (lg_sl (as.map (zV E))).length) Slot.unset).toArray) hP va_S.rf (by
      have he := lv_entry (as.map (zV E)) (n := M.2.2.1) (by rw [← hsl.1]; exact hn)
      refine ⟨?_, ?_, he.2.1, ?_⟩
      · rw [he.1]; exact hml.symm
      · rw [he.1]; simp [zent]; omega
      · intro i v hi
        rw [zent] at hi
        rcases Nat.lt_or_ge i (zflat as).length with q | q
        · rw [List.getElem?_append_left q] at hi
          have h3 := hsl.2 i v hi
          rw [List.getElem?_toArray, List.getElem?_append_left (by rw [← hsl.1]; exact q)]
          exact h3
        · rw [List.getElem?_append_right q, List.getElem?_replicate] at hi
          split at hi <;> simp at hi)
  rw [lg_entry_eq]
  exact k
theorem zSem.mono {n : Nat} {M : zM} {as : List Value} {σ : zSt} {Q Q' : Option Value → zSt → Prop} (h : zSem n M as σ Q) (hq : ∀ v τ, Q v τ → Q' v τ) : zSem n M as σ Q' := by
  intro l E
  have h1 := h l E
  intro p e ha hc hk s m args below hf hfit hp1 hp2
  obtain ⟨t, o, a1, a2, a3, ⟨⟨⟨v, τ, b1, b2, b3⟩, b4⟩, b5⟩⟩ := h1 p e ha hc hk s m args below hf hfit hp1 hp2
  exact ⟨t, o, a1, a2, a3, ⟨⟨v, τ, b1, hq _ _ b2, b3⟩, b4⟩, b5⟩

theorem zw_iconst {M : zM} {n pc : Nat} {X : zCx} {lv : List (Option Value)} {st : List Value} {σ : zSt} {v : Int} {x : Int32} (hB : zB M n X) (hd : decode M.2.1 pc = .ok (.iconst v, 1)) (hv : Int32.ofInt v = x) (k : zW X (pc + 1) lv (.int x :: st) σ) : zW X pc lv (st) σ := by
  intro H locs ls hP hS hL
  exact lv_iconst hB.1 hB.2.1 hd hv (k H locs ls hP hS hL)
theorem zw_bipush {M : zM} {n pc : Nat} {X : zCx} {lv : List (Option Value)} {st : List Value} {σ : zSt} {v : Int} {x : Int32} (hB : zB M n X) (hd : decode M.2.1 pc = .ok (.bipush v, 2)) (hv : (Int8.ofInt v).toInt32 = x) (k : zW X (pc + 2) lv (.int x :: st) σ) : zW X pc lv (st) σ := by
  intro H locs ls hP hS hL
  exact lv_bipush hB.1 hB.2.1 hd hv (k H locs ls hP hS hL)
theorem zw_sipush {M : zM} {n pc : Nat} {X : zCx} {lv : List (Option Value)} {st : List Value} {σ : zSt} {v : Int} {x : Int32} (hB : zB M n X) (hd : decode M.2.1 pc = .ok (.sipush v, 3)) (hv : (Int16.ofInt v).toInt32 = x) (k : zW X (pc + 3) lv (.int x :: st) σ) : zW X pc lv (st) σ := by
  intro H locs ls hP hS hL
  exact lv_sipush hB.1 hB.2.1 hd hv (k H locs ls hP hS hL)
theorem zw_lconst {M : zM} {n pc : Nat} {X : zCx} {lv : List (Option Value)} {st : List Value} {σ : zSt} {v : Fin 2} {x : Int64} (hB : zB M n X) (hd : decode M.2.1 pc = .ok (.lconst v, 1)) (hv : Int64.ofNat (v : Nat) = x) (k : zW X (pc + 1) lv (.long x :: st) σ) : zW X pc lv (st) σ := by
  intro H locs ls hP hS hL
  exact lv_lconst hB.1 hB.2.1 hd hv (k H locs ls hP hS hL)
theorem zw_iadd {M : zM} {n pc : Nat} {X : zCx} {lv : List (Option Value)} {st : List Value} {σ : zSt} {x y : Int32} (hB : zB M n X) (hd : decode M.2.1 pc = .ok (.iadd, 1))  (k : zW X (pc + 1) lv (.int (x + y) :: st) σ) : zW X pc lv (.int y :: .int x :: st) σ := by
  intro H locs ls hP hS hL
  exact lv_iadd hB.1 hB.2.1 hd  (k H locs ls hP hS hL)
theorem zw_isub {M : zM} {n pc : Nat} {X : zCx} {lv : List (Option Value)} {st : List Value} {σ : zSt} {x y : Int32} (hB : zB M n X) (hd : decode M.2.1 pc = .ok (.isub, 1))  (k : zW X (pc + 1) lv (.int (x - y) :: st) σ) : zW X pc lv (.int y :: .int x :: st) σ := by
  intro H locs ls hP hS hL
  exact lv_isub hB.1 hB.2.1 hd  (k H locs ls hP hS hL)
theorem zw_imul {M : zM} {n pc : Nat} {X : zCx} {lv : List (Option Value)} {st : List Value} {σ : zSt} {x y : Int32} (hB : zB M n X) (hd : decode M.2.1 pc = .ok (.imul, 1))  (k : zW X (pc + 1) lv (.int (x * y) :: st) σ) : zW X pc lv (.int y :: .int x :: st) σ := by
  intro H locs ls hP hS hL
  exact lv_imul hB.1 hB.2.1 hd  (k H locs ls hP hS hL)
theorem zw_iand {M : zM} {n pc : Nat} {X : zCx} {lv : List (Option Value)} {st : List Value} {σ : zSt} {x y : Int32} (hB : zB M n X) (hd : decode M.2.1 pc = .ok (.iand, 1))  (k : zW X (pc + 1) lv (.int (x &&& y) :: st) σ) : zW X pc lv (.int y :: .int x :: st) σ := by
  intro H locs ls hP hS hL
  exact lv_iand hB.1 hB.2.1 hd  (k H locs ls hP hS hL)
theorem zw_ior {M : zM} {n pc : Nat} {X : zCx} {lv : List (Option Value)} {st : List Value} {σ : zSt} {x y : Int32} (hB : zB M n X) (hd : decode M.2.1 pc = .ok (.ior, 1))  (k : zW X (pc + 1) lv (.int (x ||| y) :: st) σ) : zW X pc lv (.int y :: .int x :: st) σ := by
  intro H locs ls hP hS hL
  exact lv_ior hB.1 hB.2.1 hd  (k H locs ls hP hS hL)
theorem zw_ixor {M : zM} {n pc : Nat} {X : zCx} {lv : List (Option Value)} {st : List Value} {σ : zSt} {x y : Int32} (hB : zB M n X) (hd : decode M.2.1 pc = .ok (.ixor, 1))  (k : zW X (pc + 1) lv (.int (x ^^^ y) :: st) σ) : zW X pc lv (.int y :: .int x :: st) σ := by
  intro H locs ls hP hS hL
  exact lv_ixor hB.1 hB.2.1 hd  (k H locs ls hP hS hL)
theorem zw_idiv {M : zM} {n pc : Nat} {X : zCx} {lv : List (Option Value)} {st : List Value} {σ : zSt} {x y : Int32} (hB : zB M n X) (hd : decode M.2.1 pc = .ok (.idiv, 1)) (hv : ¬ y = 0) (k : zW X (pc + 1) lv (.int (x / y) :: st) σ) : zW X pc lv (.int y :: .int x :: st) σ := by
  intro H locs ls hP hS hL
  exact lv_idiv hB.1 hB.2.1 hd hv (k H locs ls hP hS hL)
theorem zw_irem {M : zM} {n pc : Nat} {X : zCx} {lv : List (Option Value)} {st : List Value} {σ : zSt} {x y : Int32} (hB : zB M n X) (hd : decode M.2.1 pc = .ok (.irem, 1)) (hv : ¬ y = 0) (k : zW X (pc + 1) lv (.int (x - x / y * y) :: st) σ) : zW X pc lv (.int y :: .int x :: st) σ := by
  intro H locs ls hP hS hL
  exact lv_irem hB.1 hB.2.1 hd hv (k H locs ls hP hS hL)
theorem zw_ineg {M : zM} {n pc : Nat} {X : zCx} {lv : List (Option Value)} {st : List Value} {σ : zSt} {x : Int32} (hB : zB M n X) (hd : decode M.2.1 pc = .ok (.ineg, 1))  (k : zW X (pc + 1) lv (.int (-x) :: st) σ) : zW X pc lv (.int x :: st) σ := by
  intro H locs ls hP hS hL
  exact lv_ineg hB.1 hB.2.1 hd  (k H locs ls hP hS hL)
theorem zw_ladd {M : zM} {n pc : Nat} {X : zCx} {lv : List (Option Value)} {st : List Value} {σ : zSt} {x y : Int64} (hB : zB M n X) (hd : decode M.2.1 pc = .ok (.ladd, 1))  (k : zW X (pc + 1) lv (.long (x + y) :: st) σ) : zW X pc lv (.long y :: .long x :: st) σ := by
  intro H locs ls hP hS hL
  exact lv_ladd hB.1 hB.2.1 hd  (k H locs ls hP hS hL)
theorem zw_lsub {M : zM} {n pc : Nat} {X : zCx} {lv : List (Option Value)} {st : List Value} {σ : zSt} {x y : Int64} (hB : zB M n X) (hd : decode M.2.1 pc = .ok (.lsub, 1))  (k : zW X (pc + 1) lv (.long (x - y) :: st) σ) : zW X pc lv (.long y :: .long x :: st) σ := by
  intro H locs ls hP hS hL
  exact lv_lsub hB.1 hB.2.1 hd  (k H locs ls hP hS hL)
theorem zw_lmul {M : zM} {n pc : Nat} {X : zCx} {lv : List (Option Value)} {st : List Value} {σ : zSt} {x y : Int64} (hB : zB M n X) (hd : decode M.2.1 pc = .ok (.lmul, 1))  (k : zW X (pc + 1) lv (.long (x * y) :: st) σ) : zW X pc lv (.long y :: .long x :: st) σ := by
  intro H locs ls hP hS hL
  exact lv_lmul hB.1 hB.2.1 hd  (k H locs ls hP hS hL)
theorem zw_ldiv {M : zM} {n pc : Nat} {X : zCx} {lv : List (Option Value)} {st : List Value} {σ : zSt} {x y : Int64} (hB : zB M n X) (hd : decode M.2.1 pc = .ok (.ldiv, 1)) (hv : ¬ y = 0) (k : zW X (pc + 1) lv (.long (x / y) :: st) σ) : zW X pc lv (.long y :: .long x :: st) σ := by
  intro H locs ls hP hS hL
  exact lv_ldiv hB.1 hB.2.1 hd hv (k H locs ls hP hS hL)
theorem zw_lrem {M : zM} {n pc : Nat} {X : zCx} {lv : List (Option Value)} {st : List Value} {σ : zSt} {x y : Int64} (hB : zB M n X) (hd : decode M.2.1 pc = .ok (.lrem, 1)) (hv : ¬ y = 0) (k : zW X (pc + 1) lv (.long (x - x / y * y) :: st) σ) : zW X pc lv (.long y :: .long x :: st) σ := by
  intro H locs ls hP hS hL
  exact lv_lrem hB.1 hB.2.1 hd hv (k H locs ls hP hS hL)
theorem zw_ishl {M : zM} {n pc : Nat} {X : zCx} {lv : List (Option Value)} {st : List Value} {σ : zSt} {x y : Int32} (hB : zB M n X) (hd : decode M.2.1 pc = .ok (.ishl, 1))  (k : zW X (pc + 1) lv (.int (x <<< (y &&& 31)) :: st) σ) : zW X pc lv (.int y :: .int x :: st) σ := by
  intro H locs ls hP hS hL
  exact lv_ishl hB.1 hB.2.1 hd  (k H locs ls hP hS hL)
theorem zw_ishr {M : zM} {n pc : Nat} {X : zCx} {lv : List (Option Value)} {st : List Value} {σ : zSt} {x y : Int32} (hB : zB M n X) (hd : decode M.2.1 pc = .ok (.ishr, 1))  (k : zW X (pc + 1) lv (.int (x >>> (y &&& 31)) :: st) σ) : zW X pc lv (.int y :: .int x :: st) σ := by
  intro H locs ls hP hS hL
  exact lv_ishr hB.1 hB.2.1 hd  (k H locs ls hP hS hL)
theorem zw_i2l {M : zM} {n pc : Nat} {X : zCx} {lv : List (Option Value)} {st : List Value} {σ : zSt} {x : Int32} (hB : zB M n X) (hd : decode M.2.1 pc = .ok (.i2l, 1))  (k : zW X (pc + 1) lv (.long x.toInt64 :: st) σ) : zW X pc lv (.int x :: st) σ := by
  intro H locs ls hP hS hL
  exact lv_i2l hB.1 hB.2.1 hd rfl (k H locs ls hP hS hL)
theorem zw_i2b {M : zM} {n pc : Nat} {X : zCx} {lv : List (Option Value)} {st : List Value} {σ : zSt} {x : Int32} (hB : zB M n X) (hd : decode M.2.1 pc = .ok (.i2b, 1))  (k : zW X (pc + 1) lv (.int x.toInt8.toInt32 :: st) σ) : zW X pc lv (.int x :: st) σ := by
  intro H locs ls hP hS hL
  exact lv_i2b hB.1 hB.2.1 hd rfl (k H locs ls hP hS hL)
theorem zw_i2c {M : zM} {n pc : Nat} {X : zCx} {lv : List (Option Value)} {st : List Value} {σ : zSt} {x : Int32} (hB : zB M n X) (hd : decode M.2.1 pc = .ok (.i2c, 1))  (k : zW X (pc + 1) lv (.int (x.toUInt32 % 65536).toInt32 :: st) σ) : zW X pc lv (.int x :: st) σ := by
  intro H locs ls hP hS hL
  exact lv_i2c hB.1 hB.2.1 hd rfl (k H locs ls hP hS hL)
theorem zw_lcmp {M : zM} {n pc : Nat} {X : zCx} {lv : List (Option Value)} {st : List Value} {σ : zSt} {x y : Int64} (hB : zB M n X) (hd : decode M.2.1 pc = .ok (.lcmp, 1))  (k : zW X (pc + 1) lv (.int (lg_cmp x y) :: st) σ) : zW X pc lv (.long y :: .long x :: st) σ := by
  intro H locs ls hP hS hL
  exact W.lcmp hB.1 hB.2.1 hd  (k H locs ls hP hS hL)
theorem zw_dup {M : zM} {n pc : Nat} {X : zCx} {lv : List (Option Value)} {st : List Value} {σ : zSt} {v : Value} (hB : zB M n X) (hd : decode M.2.1 pc = .ok (.dup, 1)) (hc : v.category = 1) (k : zW X (pc + 1) lv (v :: v :: st) σ) : zW X pc lv (v :: st) σ := by
  intro H locs ls hP hS hL
  exact lv_dup hB.1 hB.2.1 hd (by rw [zV_cat]; exact hc) (k H locs ls hP hS hL)
theorem zw_pop {M : zM} {n pc : Nat} {X : zCx} {lv : List (Option Value)} {st : List Value} {σ : zSt} {v : Value} (hB : zB M n X) (hd : decode M.2.1 pc = .ok (.pop, 1)) (hc : v.category = 1) (k : zW X (pc + 1) lv st σ) : zW X pc lv (v :: st) σ := by
  intro H locs ls hP hS hL
  exact lv_pop hB.1 hB.2.1 hd (by rw [zV_cat]; exact hc) (k H locs ls hP hS hL)
theorem zw_dup2 {M : zM} {n pc : Nat} {X : zCx} {lv : List (Option Value)} {st : List Value} {σ : zSt} {v w : Value} (hB : zB M n X) (hd : decode M.2.1 pc = .ok (.dup2, 1)) (hc : v.category = 1) (hc2 : w.category = 1) (k : zW X (pc + 1) lv (v :: w :: v :: w :: st) σ) : zW X pc lv (v :: w :: st) σ := by
  intro H locs ls hP hS hL
  exact lv_dup2_11 hB.1 hB.2.1 hd (by rw [zV_cat]; exact hc) (by rw [zV_cat]; exact hc2) (k H locs ls hP hS hL)
theorem zw_ldc {M : zM} {n pc : Nat} {X : zCx} {lv : List (Option Value)} {st : List Value} {σ : zSt} {idx : Nat} {v : Int32} (hB : zB M n X) (hd : decode M.2.1 pc = .ok (.ldc idx, 2)) (hw : Cond.constant M.1.cls idx v ∈ zts) (k : zW X (pc + 2) lv (.int v :: st) σ) : zW X pc lv st σ := by
  intro H locs ls hP hS hL
  exact lv_ldc hB.1 hB.2.1 hB.2.2.2.2.1 (hB.2.2.2.2.2.1 _ hw) hd (k H locs ls hP hS hL)
theorem zw_ldc2 {M : zM} {n pc : Nat} {X : zCx} {lv : List (Option Value)} {st : List Value} {σ : zSt} {idx : Nat} {v : Int64} (hB : zB M n X) (hd : decode M.2.1 pc = .ok (.ldc2_w idx, 3)) (hw : Cond.constantLong M.1.cls idx v ∈ zts) (k : zW X (pc + 3) lv (.long v :: st) σ) : zW X pc lv st σ := by
  intro H locs ls hP hS hL
  exact lv_ldc2 hB.1 hB.2.1 hB.2.2.2.2.1 (hB.2.2.2.2.2.1 _ hw) hd (k H locs ls hP hS hL)
theorem zw_ldcS {M : zM} {n pc : Nat} {X : zCx} {lv : List (Option Value)} {st : List Value} {σ : zSt} {idx i : Nat} {tx : String} (hB : zB M n X) (hd : decode M.2.1 pc = .ok (.ldc idx, 2)) (hw : (M.1.cls, idx, tx, i) ∈ zstr) (k : zW X (pc + 2) lv (.ref (100 + i) :: st) σ) : zW X pc lv st σ := by
  intro H locs ls hP hS hL
  exact va_ldcS hB.1 hB.2.1 hB.2.2.2.2.1 (hB.2.2.2.2.2.2.2.2.1.2.1 _ hw) hd (k H locs ls hP hS hL)
theorem zw_if_eq {M : zM} {n pc : Nat} {X : zCx} {lv : List (Option Value)} {st : List Value} {σ : zSt} {x : Int32} {off : Int} {tgt : Nat} (hB : zB M n X) (hd : decode M.2.1 pc = .ok (.ifCond .eq off, 3)) (ht : (pc : Int) + off = (tgt : Int)) (kt : x = 0 → zW X tgt lv st σ) (kf : ¬ x = 0 → zW X (pc + 3) lv st σ) : zW X pc lv (.int x :: st) σ := by
  intro H locs ls hP hS hL
  exact lv_if_eq hB.1 hB.2.1 hd ht (fun q => kt q H locs ls hP hS hL) (fun q => kf q H locs ls hP hS hL)
theorem zw_icmp_eq {M : zM} {n pc : Nat} {X : zCx} {lv : List (Option Value)} {st : List Value} {σ : zSt} {x y : Int32} {off : Int} {tgt : Nat} (hB : zB M n X) (hd : decode M.2.1 pc = .ok (.if_icmp .eq off, 3)) (ht : (pc : Int) + off = (tgt : Int)) (kt : x = y → zW X tgt lv st σ) (kf : ¬ x = y → zW X (pc + 3) lv st σ) : zW X pc lv (.int y :: .int x :: st) σ := by
  intro H locs ls hP hS hL
  exact lv_icmp_eq hB.1 hB.2.1 hd ht (fun q => kt q H locs ls hP hS hL) (fun q => kf q H locs ls hP hS hL)
theorem zw_if_ne {M : zM} {n pc : Nat} {X : zCx} {lv : List (Option Value)} {st : List Value} {σ : zSt} {x : Int32} {off : Int} {tgt : Nat} (hB : zB M n X) (hd : decode M.2.1 pc = .ok (.ifCond .ne off, 3)) (ht : (pc : Int) + off = (tgt : Int)) (kt : ¬ x = 0 → zW X tgt lv st σ) (kf : x = 0 → zW X (pc + 3) lv st σ) : zW X pc lv (.int x :: st) σ := by
  intro H locs ls hP hS hL
  exact lv_if_ne hB.1 hB.2.1 hd ht (fun q => kt q H locs ls hP hS hL) (fun q => kf q H locs ls hP hS hL)
theorem zw_icmp_ne {M : zM} {n pc : Nat} {X : zCx} {lv : List (Option Value)} {st : List Value} {σ : zSt} {x y : Int32} {off : Int} {tgt : Nat} (hB : zB M n X) (hd : decode M.2.1 pc = .ok (.if_icmp .ne off, 3)) (ht : (pc : Int) + off = (tgt : Int)) (kt : ¬ x = y → zW X tgt lv st σ) (kf : x = y → zW X (pc + 3) lv st σ) : zW X pc lv (.int y :: .int x :: st) σ := by
  intro H locs ls hP hS hL
  exact lv_icmp_ne hB.1 hB.2.1 hd ht (fun q => kt q H locs ls hP hS hL) (fun q => kf q H locs ls hP hS hL)
theorem zw_if_lt {M : zM} {n pc : Nat} {X : zCx} {lv : List (Option Value)} {st : List Value} {σ : zSt} {x : Int32} {off : Int} {tgt : Nat} (hB : zB M n X) (hd : decode M.2.1 pc = .ok (.ifCond .lt off, 3)) (ht : (pc : Int) + off = (tgt : Int)) (kt : x < 0 → zW X tgt lv st σ) (kf : ¬ x < 0 → zW X (pc + 3) lv st σ) : zW X pc lv (.int x :: st) σ := by
  intro H locs ls hP hS hL
  exact lv_if_lt hB.1 hB.2.1 hd ht (fun q => kt q H locs ls hP hS hL) (fun q => kf q H locs ls hP hS hL)
theorem zw_icmp_lt {M : zM} {n pc : Nat} {X : zCx} {lv : List (Option Value)} {st : List Value} {σ : zSt} {x y : Int32} {off : Int} {tgt : Nat} (hB : zB M n X) (hd : decode M.2.1 pc = .ok (.if_icmp .lt off, 3)) (ht : (pc : Int) + off = (tgt : Int)) (kt : x < y → zW X tgt lv st σ) (kf : ¬ x < y → zW X (pc + 3) lv st σ) : zW X pc lv (.int y :: .int x :: st) σ := by
  intro H locs ls hP hS hL
  exact lv_icmp_lt hB.1 hB.2.1 hd ht (fun q => kt q H locs ls hP hS hL) (fun q => kf q H locs ls hP hS hL)
theorem zw_if_ge {M : zM} {n pc : Nat} {X : zCx} {lv : List (Option Value)} {st : List Value} {σ : zSt} {x : Int32} {off : Int} {tgt : Nat} (hB : zB M n X) (hd : decode M.2.1 pc = .ok (.ifCond .ge off, 3)) (ht : (pc : Int) + off = (tgt : Int)) (kt : 0 ≤ x → zW X tgt lv st σ) (kf : ¬ 0 ≤ x → zW X (pc + 3) lv st σ) : zW X pc lv (.int x :: st) σ := by
  intro H locs ls hP hS hL
  exact lv_if_ge hB.1 hB.2.1 hd ht (fun q => kt q H locs ls hP hS hL) (fun q => kf q H locs ls hP hS hL)
theorem zw_icmp_ge {M : zM} {n pc : Nat} {X : zCx} {lv : List (Option Value)} {st : List Value} {σ : zSt} {x y : Int32} {off : Int} {tgt : Nat} (hB : zB M n X) (hd : decode M.2.1 pc = .ok (.if_icmp .ge off, 3)) (ht : (pc : Int) + off = (tgt : Int)) (kt : y ≤ x → zW X tgt lv st σ) (kf : ¬ y ≤ x → zW X (pc + 3) lv st σ) : zW X pc lv (.int y :: .int x :: st) σ := by
  intro H locs ls hP hS hL
  exact lv_icmp_ge hB.1 hB.2.1 hd ht (fun q => kt q H locs ls hP hS hL) (fun q => kf q H locs ls hP hS hL)
theorem zw_if_gt {M : zM} {n pc : Nat} {X : zCx} {lv : List (Option Value)} {st : List Value} {σ : zSt} {x : Int32} {off : Int} {tgt : Nat} (hB : zB M n X) (hd : decode M.2.1 pc = .ok (.ifCond .gt off, 3)) (ht : (pc : Int) + off = (tgt : Int)) (kt : 0 < x → zW X tgt lv st σ) (kf : ¬ 0 < x → zW X (pc + 3) lv st σ) : zW X pc lv (.int x :: st) σ := by
  intro H locs ls hP hS hL
  exact lv_if_gt hB.1 hB.2.1 hd ht (fun q => kt q H locs ls hP hS hL) (fun q => kf q H locs ls hP hS hL)
theorem zw_icmp_gt {M : zM} {n pc : Nat} {X : zCx} {lv : List (Option Value)} {st : List Value} {σ : zSt} {x y : Int32} {off : Int} {tgt : Nat} (hB : zB M n X) (hd : decode M.2.1 pc = .ok (.if_icmp .gt off, 3)) (ht : (pc : Int) + off = (tgt : Int)) (kt : y < x → zW X tgt lv st σ) (kf : ¬ y < x → zW X (pc + 3) lv st σ) : zW X pc lv (.int y :: .int x :: st) σ := by
  intro H locs ls hP hS hL
  exact lv_icmp_gt hB.1 hB.2.1 hd ht (fun q => kt q H locs ls hP hS hL) (fun q => kf q H locs ls hP hS hL)
theorem zw_if_le {M : zM} {n pc : Nat} {X : zCx} {lv : List (Option Value)} {st : List Value} {σ : zSt} {x : Int32} {off : Int} {tgt : Nat} (hB : zB M n X) (hd : decode M.2.1 pc = .ok (.ifCond .le off, 3)) (ht : (pc : Int) + off = (tgt : Int)) (kt : x ≤ 0 → zW X tgt lv st σ) (kf : ¬ x ≤ 0 → zW X (pc + 3) lv st σ) : zW X pc lv (.int x :: st) σ := by
  intro H locs ls hP hS hL
  exact lv_if_le hB.1 hB.2.1 hd ht (fun q => kt q H locs ls hP hS hL) (fun q => kf q H locs ls hP hS hL)
theorem zw_icmp_le {M : zM} {n pc : Nat} {X : zCx} {lv : List (Option Value)} {st : List Value} {σ : zSt} {x y : Int32} {off : Int} {tgt : Nat} (hB : zB M n X) (hd : decode M.2.1 pc = .ok (.if_icmp .le off, 3)) (ht : (pc : Int) + off = (tgt : Int)) (kt : x ≤ y → zW X tgt lv st σ) (kf : ¬ x ≤ y → zW X (pc + 3) lv st σ) : zW X pc lv (.int y :: .int x :: st) σ := by
  intro H locs ls hP hS hL
  exact lv_icmp_le hB.1 hB.2.1 hd ht (fun q => kt q H locs ls hP hS hL) (fun q => kf q H locs ls hP hS hL)
theorem zw_goto {M : zM} {n pc : Nat} {X : zCx} {lv : List (Option Value)} {st : List Value} {σ : zSt} {off : Int} {tgt : Nat} (hB : zB M n X) (hd : decode M.2.1 pc = .ok (.goto off, 3)) (ht : (pc : Int) + off = (tgt : Int)) (k : zW X tgt lv st σ) : zW X pc lv st σ := by
  intro H locs ls hP hS hL
  exact lv_goto hB.1 hB.2.1 hd ht (k H locs ls hP hS hL)
theorem zw_tabOut {M : zM} {n pc : Nat} {X : zCx} {lv : List (Option Value)} {st : List Value} {σ : zSt} {dflt lo hi : Int} {offs : Array Int} {len : Nat} {x : Int32} {tgt : Nat} (hB : zB M n X) (hd : decode M.2.1 pc = .ok (.tableswitch dflt lo hi offs, len)) (h : x.toInt < lo ∨ hi < x.toInt) (ht : (pc : Int) + dflt = (tgt : Int)) (k : zW X tgt lv st σ) : zW X pc lv (.int x :: st) σ := by
  intro H locs ls hP hS hL
  exact lv_tableOut hB.1 hB.2.1 hd h ht (k H locs ls hP hS hL)
theorem zw_tabIn {M : zM} {n pc : Nat} {X : zCx} {lv : List (Option Value)} {st : List Value} {σ : zSt} {dflt lo hi off : Int} {offs : Array Int} {len : Nat} {x : Int32} {tgt : Nat} (hB : zB M n X) (hd : decode M.2.1 pc = .ok (.tableswitch dflt lo hi offs, len)) (h1 : ¬ x.toInt < lo) (h2 : ¬ hi < x.toInt) (ho : offs[(x.toInt - lo).toNat]? = some off) (ht : (pc : Int) + off = (tgt : Int)) (k : zW X tgt lv st σ) : zW X pc lv (.int x :: st) σ := by
  intro H locs ls hP hS hL
  exact lv_tableIn hB.1 hB.2.1 hd h1 h2 ho ht (k H locs ls hP hS hL)
theorem zw_lookup {M : zM} {n pc : Nat} {X : zCx} {lv : List (Option Value)} {st : List Value} {σ : zSt} {dflt off : Int} {ps : Array (Int × Int)} {len : Nat} {x : Int32} {tgt : Nat} (hB : zB M n X) (hd : decode M.2.1 pc = .ok (.lookupswitch dflt ps, len)) (hp : (ps.toList.zip (ps.toList.drop 1)).all (fun (a, next) => a.1 < next.1) = true) (ho : Op.lookupswitch.offset ps.toList dflt x.toInt = off) (ht : (pc : Int) + off = (tgt : Int)) (k : zW X tgt lv st σ) : zW X pc lv (.int x :: st) σ := by
  intro H locs ls hP hS hL
  exact lv_lookup hB.1 hB.2.1 hd hp ho ht (k H locs ls hP hS hL)
theorem zw_iload0 {M : zM} {n pc : Nat} {X : zCx} {st : List Value} {σ : zSt} {t : List (Option Value)} {x : Int32} (hB : zB M n X) (hd : decode M.2.1 pc = .ok (.iload_n 0, 1)) (k : zW X (pc + 1) (some (.int x) :: t) (.int x :: st) σ) : zW X pc (some (.int x) :: t) st σ := by
  intro H locs ls hP hS hL
  exact lv_iload_n hB.1 hB.2.1 hd rfl (hL.2.2.2 0 _ rfl) (k H locs ls hP hS hL)
theorem zw_lload0 {M : zM} {n pc : Nat} {X : zCx} {st : List Value} {σ : zSt} {t : List (Option Value)} {x : Int64} (hB : zB M n X) (hd : decode M.2.1 pc = .ok (.lload_n 0, 1)) (k : zW X (pc + 1) (some (.long x) :: t) (.long x :: st) σ) : zW X pc (some (.long x) :: t) st σ := by
  intro H locs ls hP hS hL
  exact lv_lload_n hB.1 hB.2.1 hd rfl (hL.2.2.2 0 _ rfl) (k H locs ls hP hS hL)
theorem zw_aload0 {M : zM} {n pc : Nat} {X : zCx} {st : List Value} {σ : zSt} {t : List (Option Value)} {x : Nat} (hB : zB M n X) (hd : decode M.2.1 pc = .ok (.aload_n 0, 1)) (k : zW X (pc + 1) (some (.ref x) :: t) (.ref x :: st) σ) : zW X pc (some (.ref x) :: t) st σ := by
  intro H locs ls hP hS hL
  exact lv_aload_n hB.1 hB.2.1 hd rfl (hL.2.2.2 0 _ rfl) (k H locs ls hP hS hL)
theorem zw_iload1 {M : zM} {n pc : Nat} {X : zCx} {st : List Value} {σ : zSt} {a0 : Option Value} {t : List (Option Value)} {x : Int32} (hB : zB M n X) (hd : decode M.2.1 pc = .ok (.iload_n 1, 1)) (k : zW X (pc + 1) (a0 :: some (.int x) :: t) (.int x :: st) σ) : zW X pc (a0 :: some (.int x) :: t) st σ := by
  intro H locs ls hP hS hL
  exact lv_iload_n hB.1 hB.2.1 hd rfl (hL.2.2.2 1 _ rfl) (k H locs ls hP hS hL)
theorem zw_lload1 {M : zM} {n pc : Nat} {X : zCx} {st : List Value} {σ : zSt} {a0 : Option Value} {t : List (Option Value)} {x : Int64} (hB : zB M n X) (hd : decode M.2.1 pc = .ok (.lload_n 1, 1)) (k : zW X (pc + 1) (a0 :: some (.long x) :: t) (.long x :: st) σ) : zW X pc (a0 :: some (.long x) :: t) st σ := by
  intro H locs ls hP hS hL
  exact lv_lload_n hB.1 hB.2.1 hd rfl (hL.2.2.2 1 _ rfl) (k H locs ls hP hS hL)
theorem zw_aload1 {M : zM} {n pc : Nat} {X : zCx} {st : List Value} {σ : zSt} {a0 : Option Value} {t : List (Option Value)} {x : Nat} (hB : zB M n X) (hd : decode M.2.1 pc = .ok (.aload_n 1, 1)) (k : zW X (pc + 1) (a0 :: some (.ref x) :: t) (.ref x :: st) σ) : zW X pc (a0 :: some (.ref x) :: t) st σ := by
  intro H locs ls hP hS hL
  exact lv_aload_n hB.1 hB.2.1 hd rfl (hL.2.2.2 1 _ rfl) (k H locs ls hP hS hL)
theorem zw_iload2 {M : zM} {n pc : Nat} {X : zCx} {st : List Value} {σ : zSt} {a0 a1 : Option Value} {t : List (Option Value)} {x : Int32} (hB : zB M n X) (hd : decode M.2.1 pc = .ok (.iload_n 2, 1)) (k : zW X (pc + 1) (a0 :: a1 :: some (.int x) :: t) (.int x :: st) σ) : zW X pc (a0 :: a1 :: some (.int x) :: t) st σ := by
  intro H locs ls hP hS hL
  exact lv_iload_n hB.1 hB.2.1 hd rfl (hL.2.2.2 2 _ rfl) (k H locs ls hP hS hL)
theorem zw_lload2 {M : zM} {n pc : Nat} {X : zCx} {st : List Value} {σ : zSt} {a0 a1 : Option Value} {t : List (Option Value)} {x : Int64} (hB : zB M n X) (hd : decode M.2.1 pc = .ok (.lload_n 2, 1)) (k : zW X (pc + 1) (a0 :: a1 :: some (.long x) :: t) (.long x :: st) σ) : zW X pc (a0 :: a1 :: some (.long x) :: t) st σ := by
  intro H locs ls hP hS hL
  exact lv_lload_n hB.1 hB.2.1 hd rfl (hL.2.2.2 2 _ rfl) (k H locs ls hP hS hL)
theorem zw_aload2 {M : zM} {n pc : Nat} {X : zCx} {st : List Value} {σ : zSt} {a0 a1 : Option Value} {t : List (Option Value)} {x : Nat} (hB : zB M n X) (hd : decode M.2.1 pc = .ok (.aload_n 2, 1)) (k : zW X (pc + 1) (a0 :: a1 :: some (.ref x) :: t) (.ref x :: st) σ) : zW X pc (a0 :: a1 :: some (.ref x) :: t) st σ := by
  intro H locs ls hP hS hL
  exact lv_aload_n hB.1 hB.2.1 hd rfl (hL.2.2.2 2 _ rfl) (k H locs ls hP hS hL)
theorem zw_iload3 {M : zM} {n pc : Nat} {X : zCx} {st : List Value} {σ : zSt} {a0 a1 a2 : Option Value} {t : List (Option Value)} {x : Int32} (hB : zB M n X) (hd : decode M.2.1 pc = .ok (.iload_n 3, 1)) (k : zW X (pc + 1) (a0 :: a1 :: a2 :: some (.int x) :: t) (.int x :: st) σ) : zW X pc (a0 :: a1 :: a2 :: some (.int x) :: t) st σ := by
  intro H locs ls hP hS hL
  exact lv_iload_n hB.1 hB.2.1 hd rfl (hL.2.2.2 3 _ rfl) (k H locs ls hP hS hL)
theorem zw_lload3 {M : zM} {n pc : Nat} {X : zCx} {st : List Value} {σ : zSt} {a0 a1 a2 : Option Value} {t : List (Option Value)} {x : Int64} (hB : zB M n X) (hd : decode M.2.1 pc = .ok (.lload_n 3, 1)) (k : zW X (pc + 1) (a0 :: a1 :: a2 :: some (.long x) :: t) (.long x :: st) σ) : zW X pc (a0 :: a1 :: a2 :: some (.long x) :: t) st σ := by
  intro H locs ls hP hS hL
  exact lv_lload_n hB.1 hB.2.1 hd rfl (hL.2.2.2 3 _ rfl) (k H locs ls hP hS hL)
theorem zw_aload3 {M : zM} {n pc : Nat} {X : zCx} {st : List Value} {σ : zSt} {a0 a1 a2 : Option Value} {t : List (Option Value)} {x : Nat} (hB : zB M n X) (hd : decode M.2.1 pc = .ok (.aload_n 3, 1)) (k : zW X (pc + 1) (a0 :: a1 :: a2 :: some (.ref x) :: t) (.ref x :: st) σ) : zW X pc (a0 :: a1 :: a2 :: some (.ref x) :: t) st σ := by
  intro H locs ls hP hS hL
  exact lv_aload_n hB.1 hB.2.1 hd rfl (hL.2.2.2 3 _ rfl) (k H locs ls hP hS hL)
theorem zw_iload4 {M : zM} {n pc : Nat} {X : zCx} {st : List Value} {σ : zSt} {a0 a1 a2 a3 : Option Value} {t : List (Option Value)} {x : Int32} (hB : zB M n X) (hd : decode M.2.1 pc = .ok (.iload 4, 2)) (k : zW X (pc + 2) (a0 :: a1 :: a2 :: a3 :: some (.int x) :: t) (.int x :: st) σ) : zW X pc (a0 :: a1 :: a2 :: a3 :: some (.int x) :: t) st σ := by
  intro H locs ls hP hS hL
  exact lv_iload hB.1 hB.2.1 hd (hL.2.2.2 4 _ rfl) (k H locs ls hP hS hL)
theorem zw_lload4 {M : zM} {n pc : Nat} {X : zCx} {st : List Value} {σ : zSt} {a0 a1 a2 a3 : Option Value} {t : List (Option Value)} {x : Int64} (hB : zB M n X) (hd : decode M.2.1 pc = .ok (.lload 4, 2)) (k : zW X (pc + 2) (a0 :: a1 :: a2 :: a3 :: some (.long x) :: t) (.long x :: st) σ) : zW X pc (a0 :: a1 :: a2 :: a3 :: some (.long x) :: t) st σ := by
  intro H locs ls hP hS hL
  exact lv_lload hB.1 hB.2.1 hd (hL.2.2.2 4 _ rfl) (k H locs ls hP hS hL)
theorem zw_aload4 {M : zM} {n pc : Nat} {X : zCx} {st : List Value} {σ : zSt} {a0 a1 a2 a3 : Option Value} {t : List (Option Value)} {x : Nat} (hB : zB M n X) (hd : decode M.2.1 pc = .ok (.aload 4, 2)) (k : zW X (pc + 2) (a0 :: a1 :: a2 :: a3 :: some (.ref x) :: t) (.ref x :: st) σ) : zW X pc (a0 :: a1 :: a2 :: a3 :: some (.ref x) :: t) st σ := by
  intro H locs ls hP hS hL
  exact lv_aload hB.1 hB.2.1 hd (hL.2.2.2 4 _ rfl) (k H locs ls hP hS hL)
theorem zw_iload5 {M : zM} {n pc : Nat} {X : zCx} {st : List Value} {σ : zSt} {a0 a1 a2 a3 a4 : Option Value} {t : List (Option Value)} {x : Int32} (hB : zB M n X) (hd : decode M.2.1 pc = .ok (.iload 5, 2)) (k : zW X (pc + 2) (a0 :: a1 :: a2 :: a3 :: a4 :: some (.int x) :: t) (.int x :: st) σ) : zW X pc (a0 :: a1 :: a2 :: a3 :: a4 :: some (.int x) :: t) st σ := by
  intro H locs ls hP hS hL
  exact lv_iload hB.1 hB.2.1 hd (hL.2.2.2 5 _ rfl) (k H locs ls hP hS hL)
theorem zw_lload5 {M : zM} {n pc : Nat} {X : zCx} {st : List Value} {σ : zSt} {a0 a1 a2 a3 a4 : Option Value} {t : List (Option Value)} {x : Int64} (hB : zB M n X) (hd : decode M.2.1 pc = .ok (.lload 5, 2)) (k : zW X (pc + 2) (a0 :: a1 :: a2 :: a3 :: a4 :: some (.long x) :: t) (.long x :: st) σ) : zW X pc (a0 :: a1 :: a2 :: a3 :: a4 :: some (.long x) :: t) st σ := by
  intro H locs ls hP hS hL
  exact lv_lload hB.1 hB.2.1 hd (hL.2.2.2 5 _ rfl) (k H locs ls hP hS hL)
theorem zw_aload5 {M : zM} {n pc : Nat} {X : zCx} {st : List Value} {σ : zSt} {a0 a1 a2 a3 a4 : Option Value} {t : List (Option Value)} {x : Nat} (hB : zB M n X) (hd : decode M.2.1 pc = .ok (.aload 5, 2)) (k : zW X (pc + 2) (a0 :: a1 :: a2 :: a3 :: a4 :: some (.ref x) :: t) (.ref x :: st) σ) : zW X pc (a0 :: a1 :: a2 :: a3 :: a4 :: some (.ref x) :: t) st σ := by
  intro H locs ls hP hS hL
  exact lv_aload hB.1 hB.2.1 hd (hL.2.2.2 5 _ rfl) (k H locs ls hP hS hL)
theorem zw_iload6 {M : zM} {n pc : Nat} {X : zCx} {st : List Value} {σ : zSt} {a0 a1 a2 a3 a4 a5 : Option Value} {t : List (Option Value)} {x : Int32} (hB : zB M n X) (hd : decode M.2.1 pc = .ok (.iload 6, 2)) (k : zW X (pc + 2) (a0 :: a1 :: a2 :: a3 :: a4 :: a5 :: some (.int x) :: t) (.int x :: st) σ) : zW X pc (a0 :: a1 :: a2 :: a3 :: a4 :: a5 :: some (.int x) :: t) st σ := by
  intro H locs ls hP hS hL
  exact lv_iload hB.1 hB.2.1 hd (hL.2.2.2 6 _ rfl) (k H locs ls hP hS hL)
theorem zw_lload6 {M : zM} {n pc : Nat} {X : zCx} {st : List Value} {σ : zSt} {a0 a1 a2 a3 a4 a5 : Option Value} {t : List (Option Value)} {x : Int64} (hB : zB M n X) (hd : decode M.2.1 pc = .ok (.lload 6, 2)) (k : zW X (pc + 2) (a0 :: a1 :: a2 :: a3 :: a4 :: a5 :: some (.long x) :: t) (.long x :: st) σ) : zW X pc (a0 :: a1 :: a2 :: a3 :: a4 :: a5 :: some (.long x) :: t) st σ := by
  intro H locs ls hP hS hL
  exact lv_lload hB.1 hB.2.1 hd (hL.2.2.2 6 _ rfl) (k H locs ls hP hS hL)
theorem zw_aload6 {M : zM} {n pc : Nat} {X : zCx} {st : List Value} {σ : zSt} {a0 a1 a2 a3 a4 a5 : Option Value} {t : List (Option Value)} {x : Nat} (hB : zB M n X) (hd : decode M.2.1 pc = .ok (.aload 6, 2)) (k : zW X (pc + 2) (a0 :: a1 :: a2 :: a3 :: a4 :: a5 :: some (.ref x) :: t) (.ref x :: st) σ) : zW X pc (a0 :: a1 :: a2 :: a3 :: a4 :: a5 :: some (.ref x) :: t) st σ := by
  intro H locs ls hP hS hL
  exact lv_aload hB.1 hB.2.1 hd (hL.2.2.2 6 _ rfl) (k H locs ls hP hS hL)
theorem zw_iload7 {M : zM} {n pc : Nat} {X : zCx} {st : List Value} {σ : zSt} {a0 a1 a2 a3 a4 a5 a6 : Option Value} {t : List (Option Value)} {x : Int32} (hB : zB M n X) (hd : decode M.2.1 pc = .ok (.iload 7, 2)) (k : zW X (pc + 2) (a0 :: a1 :: a2 :: a3 :: a4 :: a5 :: a6 :: some (.int x) :: t) (.int x :: st) σ) : zW X pc (a0 :: a1 :: a2 :: a3 :: a4 :: a5 :: a6 :: some (.int x) :: t) st σ := by
  intro H locs ls hP hS hL
  exact lv_iload hB.1 hB.2.1 hd (hL.2.2.2 7 _ rfl) (k H locs ls hP hS hL)
theorem zw_lload7 {M : zM} {n pc : Nat} {X : zCx} {st : List Value} {σ : zSt} {a0 a1 a2 a3 a4 a5 a6 : Option Value} {t : List (Option Value)} {x : Int64} (hB : zB M n X) (hd : decode M.2.1 pc = .ok (.lload 7, 2)) (k : zW X (pc + 2) (a0 :: a1 :: a2 :: a3 :: a4 :: a5 :: a6 :: some (.long x) :: t) (.long x :: st) σ) : zW X pc (a0 :: a1 :: a2 :: a3 :: a4 :: a5 :: a6 :: some (.long x) :: t) st σ := by
  intro H locs ls hP hS hL
  exact lv_lload hB.1 hB.2.1 hd (hL.2.2.2 7 _ rfl) (k H locs ls hP hS hL)
theorem zw_aload7 {M : zM} {n pc : Nat} {X : zCx} {st : List Value} {σ : zSt} {a0 a1 a2 a3 a4 a5 a6 : Option Value} {t : List (Option Value)} {x : Nat} (hB : zB M n X) (hd : decode M.2.1 pc = .ok (.aload 7, 2)) (k : zW X (pc + 2) (a0 :: a1 :: a2 :: a3 :: a4 :: a5 :: a6 :: some (.ref x) :: t) (.ref x :: st) σ) : zW X pc (a0 :: a1 :: a2 :: a3 :: a4 :: a5 :: a6 :: some (.ref x) :: t) st σ := by
  intro H locs ls hP hS hL
  exact lv_aload hB.1 hB.2.1 hd (hL.2.2.2 7 _ rfl) (k H locs ls hP hS hL)
theorem zw_iload8 {M : zM} {n pc : Nat} {X : zCx} {st : List Value} {σ : zSt} {a0 a1 a2 a3 a4 a5 a6 a7 : Option Value} {t : List (Option Value)} {x : Int32} (hB : zB M n X) (hd : decode M.2.1 pc = .ok (.iload 8, 2)) (k : zW X (pc + 2) (a0 :: a1 :: a2 :: a3 :: a4 :: a5 :: a6 :: a7 :: some (.int x) :: t) (.int x :: st) σ) : zW X pc (a0 :: a1 :: a2 :: a3 :: a4 :: a5 :: a6 :: a7 :: some (.int x) :: t) st σ := by
  intro H locs ls hP hS hL
  exact lv_iload hB.1 hB.2.1 hd (hL.2.2.2 8 _ rfl) (k H locs ls hP hS hL)
theorem zw_lload8 {M : zM} {n pc : Nat} {X : zCx} {st : List Value} {σ : zSt} {a0 a1 a2 a3 a4 a5 a6 a7 : Option Value} {t : List (Option Value)} {x : Int64} (hB : zB M n X) (hd : decode M.2.1 pc = .ok (.lload 8, 2)) (k : zW X (pc + 2) (a0 :: a1 :: a2 :: a3 :: a4 :: a5 :: a6 :: a7 :: some (.long x) :: t) (.long x :: st) σ) : zW X pc (a0 :: a1 :: a2 :: a3 :: a4 :: a5 :: a6 :: a7 :: some (.long x) :: t) st σ := by
  intro H locs ls hP hS hL
  exact lv_lload hB.1 hB.2.1 hd (hL.2.2.2 8 _ rfl) (k H locs ls hP hS hL)
theorem zw_aload8 {M : zM} {n pc : Nat} {X : zCx} {st : List Value} {σ : zSt} {a0 a1 a2 a3 a4 a5 a6 a7 : Option Value} {t : List (Option Value)} {x : Nat} (hB : zB M n X) (hd : decode M.2.1 pc = .ok (.aload 8, 2)) (k : zW X (pc + 2) (a0 :: a1 :: a2 :: a3 :: a4 :: a5 :: a6 :: a7 :: some (.ref x) :: t) (.ref x :: st) σ) : zW X pc (a0 :: a1 :: a2 :: a3 :: a4 :: a5 :: a6 :: a7 :: some (.ref x) :: t) st σ := by
  intro H locs ls hP hS hL
  exact lv_aload hB.1 hB.2.1 hd (hL.2.2.2 8 _ rfl) (k H locs ls hP hS hL)
theorem zw_iload9 {M : zM} {n pc : Nat} {X : zCx} {st : List Value} {σ : zSt} {a0 a1 a2 a3 a4 a5 a6 a7 a8 : Option Value} {t : List (Option Value)} {x : Int32} (hB : zB M n X) (hd : decode M.2.1 pc = .ok (.iload 9, 2)) (k : zW X (pc + 2) (a0 :: a1 :: a2 :: a3 :: a4 :: a5 :: a6 :: a7 :: a8 :: some (.int x) :: t) (.int x :: st) σ) : zW X pc (a0 :: a1 :: a2 :: a3 :: a4 :: a5 :: a6 :: a7 :: a8 :: some (.int x) :: t) st σ := by
  intro H locs ls hP hS hL
  exact lv_iload hB.1 hB.2.1 hd (hL.2.2.2 9 _ rfl) (k H locs ls hP hS hL)
theorem zw_lload9 {M : zM} {n pc : Nat} {X : zCx} {st : List Value} {σ : zSt} {a0 a1 a2 a3 a4 a5 a6 a7 a8 : Option Value} {t : List (Option Value)} {x : Int64} (hB : zB M n X) (hd : decode M.2.1 pc = .ok (.lload 9, 2)) (k : zW X (pc + 2) (a0 :: a1 :: a2 :: a3 :: a4 :: a5 :: a6 :: a7 :: a8 :: some (.long x) :: t) (.long x :: st) σ) : zW X pc (a0 :: a1 :: a2 :: a3 :: a4 :: a5 :: a6 :: a7 :: a8 :: some (.long x) :: t) st σ := by
  intro H locs ls hP hS hL
  exact lv_lload hB.1 hB.2.1 hd (hL.2.2.2 9 _ rfl) (k H locs ls hP hS hL)
theorem zw_aload9 {M : zM} {n pc : Nat} {X : zCx} {st : List Value} {σ : zSt} {a0 a1 a2 a3 a4 a5 a6 a7 a8 : Option Value} {t : List (Option Value)} {x : Nat} (hB : zB M n X) (hd : decode M.2.1 pc = .ok (.aload 9, 2)) (k : zW X (pc + 2) (a0 :: a1 :: a2 :: a3 :: a4 :: a5 :: a6 :: a7 :: a8 :: some (.ref x) :: t) (.ref x :: st) σ) : zW X pc (a0 :: a1 :: a2 :: a3 :: a4 :: a5 :: a6 :: a7 :: a8 :: some (.ref x) :: t) st σ := by
  intro H locs ls hP hS hL
  exact lv_aload hB.1 hB.2.1 hd (hL.2.2.2 9 _ rfl) (k H locs ls hP hS hL)
theorem zw_iload10 {M : zM} {n pc : Nat} {X : zCx} {st : List Value} {σ : zSt} {a0 a1 a2 a3 a4 a5 a6 a7 a8 a9 : Option Value} {t : List (Option Value)} {x : Int32} (hB : zB M n X) (hd : decode M.2.1 pc = .ok (.iload 10, 2)) (k : zW X (pc + 2) (a0 :: a1 :: a2 :: a3 :: a4 :: a5 :: a6 :: a7 :: a8 :: a9 :: some (.int x) :: t) (.int x :: st) σ) : zW X pc (a0 :: a1 :: a2 :: a3 :: a4 :: a5 :: a6 :: a7 :: a8 :: a9 :: some (.int x) :: t) st σ := by
  intro H locs ls hP hS hL
  exact lv_iload hB.1 hB.2.1 hd (hL.2.2.2 10 _ rfl) (k H locs ls hP hS hL)
theorem zw_lload10 {M : zM} {n pc : Nat} {X : zCx} {st : List Value} {σ : zSt} {a0 a1 a2 a3 a4 a5 a6 a7 a8 a9 : Option Value} {t : List (Option Value)} {x : Int64} (hB : zB M n X) (hd : decode M.2.1 pc = .ok (.lload 10, 2)) (k : zW X (pc + 2) (a0 :: a1 :: a2 :: a3 :: a4 :: a5 :: a6 :: a7 :: a8 :: a9 :: some (.long x) :: t) (.long x :: st) σ) : zW X pc (a0 :: a1 :: a2 :: a3 :: a4 :: a5 :: a6 :: a7 :: a8 :: a9 :: some (.long x) :: t) st σ := by
  intro H locs ls hP hS hL
  exact lv_lload hB.1 hB.2.1 hd (hL.2.2.2 10 _ rfl) (k H locs ls hP hS hL)
theorem zw_aload10 {M : zM} {n pc : Nat} {X : zCx} {st : List Value} {σ : zSt} {a0 a1 a2 a3 a4 a5 a6 a7 a8 a9 : Option Value} {t : List (Option Value)} {x : Nat} (hB : zB M n X) (hd : decode M.2.1 pc = .ok (.aload 10, 2)) (k : zW X (pc + 2) (a0 :: a1 :: a2 :: a3 :: a4 :: a5 :: a6 :: a7 :: a8 :: a9 :: some (.ref x) :: t) (.ref x :: st) σ) : zW X pc (a0 :: a1 :: a2 :: a3 :: a4 :: a5 :: a6 :: a7 :: a8 :: a9 :: some (.ref x) :: t) st σ := by
  intro H locs ls hP hS hL
  exact lv_aload hB.1 hB.2.1 hd (hL.2.2.2 10 _ rfl) (k H locs ls hP hS hL)
theorem zw_iload11 {M : zM} {n pc : Nat} {X : zCx} {st : List Value} {σ : zSt} {a0 a1 a2 a3 a4 a5 a6 a7 a8 a9 a10 : Option Value} {t : List (Option Value)} {x : Int32} (hB : zB M n X) (hd : decode M.2.1 pc = .ok (.iload 11, 2)) (k : zW X (pc + 2) (a0 :: a1 :: a2 :: a3 :: a4 :: a5 :: a6 :: a7 :: a8 :: a9 :: a10 :: some (.int x) :: t) (.int x :: st) σ) : zW X pc (a0 :: a1 :: a2 :: a3 :: a4 :: a5 :: a6 :: a7 :: a8 :: a9 :: a10 :: some (.int x) :: t) st σ := by
  intro H locs ls hP hS hL
  exact lv_iload hB.1 hB.2.1 hd (hL.2.2.2 11 _ rfl) (k H locs ls hP hS hL)
theorem zw_lload11 {M : zM} {n pc : Nat} {X : zCx} {st : List Value} {σ : zSt} {a0 a1 a2 a3 a4 a5 a6 a7 a8 a9 a10 : Option Value} {t : List (Option Value)} {x : Int64} (hB : zB M n X) (hd : decode M.2.1 pc = .ok (.lload 11, 2)) (k : zW X (pc + 2) (a0 :: a1 :: a2 :: a3 :: a4 :: a5 :: a6 :: a7 :: a8 :: a9 :: a10 :: some (.long x) :: t) (.long x :: st) σ) : zW X pc (a0 :: a1 :: a2 :: a3 :: a4 :: a5 :: a6 :: a7 :: a8 :: a9 :: a10 :: some (.long x) :: t) st σ := by
  intro H locs ls hP hS hL
  exact lv_lload hB.1 hB.2.1 hd (hL.2.2.2 11 _ rfl) (k H locs ls hP hS hL)
theorem zw_aload11 {M : zM} {n pc : Nat} {X : zCx} {st : List Value} {σ : zSt} {a0 a1 a2 a3 a4 a5 a6 a7 a8 a9 a10 : Option Value} {t : List (Option Value)} {x : Nat} (hB : zB M n X) (hd : decode M.2.1 pc = .ok (.aload 11, 2)) (k : zW X (pc + 2) (a0 :: a1 :: a2 :: a3 :: a4 :: a5 :: a6 :: a7 :: a8 :: a9 :: a10 :: some (.ref x) :: t) (.ref x :: st) σ) : zW X pc (a0 :: a1 :: a2 :: a3 :: a4 :: a5 :: a6 :: a7 :: a8 :: a9 :: a10 :: some (.ref x) :: t) st σ := by
  intro H locs ls hP hS hL
  exact lv_aload hB.1 hB.2.1 hd (hL.2.2.2 11 _ rfl) (k H locs ls hP hS hL)
theorem zw_iload12 {M : zM} {n pc : Nat} {X : zCx} {st : List Value} {σ : zSt} {a0 a1 a2 a3 a4 a5 a6 a7 a8 a9 a10 a11 : Option Value} {t : List (Option Value)} {x : Int32} (hB : zB M n X) (hd : decode M.2.1 pc = .ok (.iload 12, 2)) (k : zW X (pc + 2) (a0 :: a1 :: a2 :: a3 :: a4 :: a5 :: a6 :: a7 :: a8 :: a9 :: a10 :: a11 :: some (.int x) :: t) (.int x :: st) σ) : zW X pc (a0 :: a1 :: a2 :: a3 :: a4 :: a5 :: a6 :: a7 :: a8 :: a9 :: a10 :: a11 :: some (.int x) :: t) st σ := by
  intro H locs ls hP hS hL
  exact lv_iload hB.1 hB.2.1 hd (hL.2.2.2 12 _ rfl) (k H locs ls hP hS hL)
theorem zw_lload12 {M : zM} {n pc : Nat} {X : zCx} {st : List Value} {σ : zSt} {a0 a1 a2 a3 a4 a5 a6 a7 a8 a9 a10 a11 : Option Value} {t : List (Option Value)} {x : Int64} (hB : zB M n X) (hd : decode M.2.1 pc = .ok (.lload 12, 2)) (k : zW X (pc + 2) (a0 :: a1 :: a2 :: a3 :: a4 :: a5 :: a6 :: a7 :: a8 :: a9 :: a10 :: a11 :: some (.long x) :: t) (.long x :: st) σ) : zW X pc (a0 :: a1 :: a2 :: a3 :: a4 :: a5 :: a6 :: a7 :: a8 :: a9 :: a10 :: a11 :: some (.long x) :: t) st σ := by
  intro H locs ls hP hS hL
  exact lv_lload hB.1 hB.2.1 hd (hL.2.2.2 12 _ rfl) (k H locs ls hP hS hL)
theorem zw_aload12 {M : zM} {n pc : Nat} {X : zCx} {st : List Value} {σ : zSt} {a0 a1 a2 a3 a4 a5 a6 a7 a8 a9 a10 a11 : Option Value} {t : List (Option Value)} {x : Nat} (hB : zB M n X) (hd : decode M.2.1 pc = .ok (.aload 12, 2)) (k : zW X (pc + 2) (a0 :: a1 :: a2 :: a3 :: a4 :: a5 :: a6 :: a7 :: a8 :: a9 :: a10 :: a11 :: some (.ref x) :: t) (.ref x :: st) σ) : zW X pc (a0 :: a1 :: a2 :: a3 :: a4 :: a5 :: a6 :: a7 :: a8 :: a9 :: a10 :: a11 :: some (.ref x) :: t) st σ := by
  intro H locs ls hP hS hL
  exact lv_aload hB.1 hB.2.1 hd (hL.2.2.2 12 _ rfl) (k H locs ls hP hS hL)
theorem zw_iload13 {M : zM} {n pc : Nat} {X : zCx} {st : List Value} {σ : zSt} {a0 a1 a2 a3 a4 a5 a6 a7 a8 a9 a10 a11 a12 : Option Value} {t : List (Option Value)} {x : Int32} (hB : zB M n X) (hd : decode M.2.1 pc = .ok (.iload 13, 2)) (k : zW X (pc + 2) (a0 :: a1 :: a2 :: a3 :: a4 :: a5 :: a6 :: a7 :: a8 :: a9 :: a10 :: a11 :: a12 :: some (.int x) :: t) (.int x :: st) σ) : zW X pc (a0 :: a1 :: a2 :: a3 :: a4 :: a5 :: a6 :: a7 :: a8 :: a9 :: a10 :: a11 :: a12 :: some (.int x) :: t) st σ := by
  intro H locs ls hP hS hL
  exact lv_iload hB.1 hB.2.1 hd (hL.2.2.2 13 _ rfl) (k H locs ls hP hS hL)
theorem zw_lload13 {M : zM} {n pc : Nat} {X : zCx} {st : List Value} {σ : zSt} {a0 a1 a2 a3 a4 a5 a6 a7 a8 a9 a10 a11 a12 : Option Value} {t : List (Option Value)} {x : Int64} (hB : zB M n X) (hd : decode M.2.1 pc = .ok (.lload 13, 2)) (k : zW X (pc + 2) (a0 :: a1 :: a2 :: a3 :: a4 :: a5 :: a6 :: a7 :: a8 :: a9 :: a10 :: a11 :: a12 :: some (.long x) :: t) (.long x :: st) σ) : zW X pc (a0 :: a1 :: a2 :: a3 :: a4 :: a5 :: a6 :: a7 :: a8 :: a9 :: a10 :: a11 :: a12 :: some (.long x) :: t) st σ := by
  intro H locs ls hP hS hL
  exact lv_lload hB.1 hB.2.1 hd (hL.2.2.2 13 _ rfl) (k H locs ls hP hS hL)
theorem zw_aload13 {M : zM} {n pc : Nat} {X : zCx} {st : List Value} {σ : zSt} {a0 a1 a2 a3 a4 a5 a6 a7 a8 a9 a10 a11 a12 : Option Value} {t : List (Option Value)} {x : Nat} (hB : zB M n X) (hd : decode M.2.1 pc = .ok (.aload 13, 2)) (k : zW X (pc + 2) (a0 :: a1 :: a2 :: a3 :: a4 :: a5 :: a6 :: a7 :: a8 :: a9 :: a10 :: a11 :: a12 :: some (.ref x) :: t) (.ref x :: st) σ) : zW X pc (a0 :: a1 :: a2 :: a3 :: a4 :: a5 :: a6 :: a7 :: a8 :: a9 :: a10 :: a11 :: a12 :: some (.ref x) :: t) st σ := by
  intro H locs ls hP hS hL
  exact lv_aload hB.1 hB.2.1 hd (hL.2.2.2 13 _ rfl) (k H locs ls hP hS hL)
theorem zw_iload14 {M : zM} {n pc : Nat} {X : zCx} {st : List Value} {σ : zSt} {a0 a1 a2 a3 a4 a5 a6 a7 a8 a9 a10 a11 a12 a13 : Option Value} {t : List (Option Value)} {x : Int32} (hB : zB M n X) (hd : decode M.2.1 pc = .ok (.iload 14, 2)) (k : zW X (pc + 2) (a0 :: a1 :: a2 :: a3 :: a4 :: a5 :: a6 :: a7 :: a8 :: a9 :: a10 :: a11 :: a12 :: a13 :: some (.int x) :: t) (.int x :: st) σ) : zW X pc (a0 :: a1 :: a2 :: a3 :: a4 :: a5 :: a6 :: a7 :: a8 :: a9 :: a10 :: a11 :: a12 :: a13 :: some (.int x) :: t) st σ := by
  intro H locs ls hP hS hL
  exact lv_iload hB.1 hB.2.1 hd (hL.2.2.2 14 _ rfl) (k H locs ls hP hS hL)
theorem zw_lload14 {M : zM} {n pc : Nat} {X : zCx} {st : List Value} {σ : zSt} {a0 a1 a2 a3 a4 a5 a6 a7 a8 a9 a10 a11 a12 a13 : Option Value} {t : List (Option Value)} {x : Int64} (hB : zB M n X) (hd : decode M.2.1 pc = .ok (.lload 14, 2)) (k : zW X (pc + 2) (a0 :: a1 :: a2 :: a3 :: a4 :: a5 :: a6 :: a7 :: a8 :: a9 :: a10 :: a11 :: a12 :: a13 :: some (.long x) :: t) (.long x :: st) σ) : zW X pc (a0 :: a1 :: a2 :: a3 :: a4 :: a5 :: a6 :: a7 :: a8 :: a9 :: a10 :: a11 :: a12 :: a13 :: some (.long x) :: t) st σ := by
  intro H locs ls hP hS hL
  exact lv_lload hB.1 hB.2.1 hd (hL.2.2.2 14 _ rfl) (k H locs ls hP hS hL)
theorem zw_aload14 {M : zM} {n pc : Nat} {X : zCx} {st : List Value} {σ : zSt} {a0 a1 a2 a3 a4 a5 a6 a7 a8 a9 a10 a11 a12 a13 : Option Value} {t : List (Option Value)} {x : Nat} (hB : zB M n X) (hd : decode M.2.1 pc = .ok (.aload 14, 2)) (k : zW X (pc + 2) (a0 :: a1 :: a2 :: a3 :: a4 :: a5 :: a6 :: a7 :: a8 :: a9 :: a10 :: a11 :: a12 :: a13 :: some (.ref x) :: t) (.ref x :: st) σ) : zW X pc (a0 :: a1 :: a2 :: a3 :: a4 :: a5 :: a6 :: a7 :: a8 :: a9 :: a10 :: a11 :: a12 :: a13 :: some (.ref x) :: t) st σ := by
  intro H locs ls hP hS hL
  exact lv_aload hB.1 hB.2.1 hd (hL.2.2.2 14 _ rfl) (k H locs ls hP hS hL)
theorem zw_iload15 {M : zM} {n pc : Nat} {X : zCx} {st : List Value} {σ : zSt} {a0 a1 a2 a3 a4 a5 a6 a7 a8 a9 a10 a11 a12 a13 a14 : Option Value} {t : List (Option Value)} {x : Int32} (hB : zB M n X) (hd : decode M.2.1 pc = .ok (.iload 15, 2)) (k : zW X (pc + 2) (a0 :: a1 :: a2 :: a3 :: a4 :: a5 :: a6 :: a7 :: a8 :: a9 :: a10 :: a11 :: a12 :: a13 :: a14 :: some (.int x) :: t) (.int x :: st) σ) : zW X pc (a0 :: a1 :: a2 :: a3 :: a4 :: a5 :: a6 :: a7 :: a8 :: a9 :: a10 :: a11 :: a12 :: a13 :: a14 :: some (.int x) :: t) st σ := by
  intro H locs ls hP hS hL
  exact lv_iload hB.1 hB.2.1 hd (hL.2.2.2 15 _ rfl) (k H locs ls hP hS hL)
theorem zw_lload15 {M : zM} {n pc : Nat} {X : zCx} {st : List Value} {σ : zSt} {a0 a1 a2 a3 a4 a5 a6 a7 a8 a9 a10 a11 a12 a13 a14 : Option Value} {t : List (Option Value)} {x : Int64} (hB : zB M n X) (hd : decode M.2.1 pc = .ok (.lload 15, 2)) (k : zW X (pc + 2) (a0 :: a1 :: a2 :: a3 :: a4 :: a5 :: a6 :: a7 :: a8 :: a9 :: a10 :: a11 :: a12 :: a13 :: a14 :: some (.long x) :: t) (.long x :: st) σ) : zW X pc (a0 :: a1 :: a2 :: a3 :: a4 :: a5 :: a6 :: a7 :: a8 :: a9 :: a10 :: a11 :: a12 :: a13 :: a14 :: some (.long x) :: t) st σ := by
  intro H locs ls hP hS hL
  exact lv_lload hB.1 hB.2.1 hd (hL.2.2.2 15 _ rfl) (k H locs ls hP hS hL)
theorem zw_aload15 {M : zM} {n pc : Nat} {X : zCx} {st : List Value} {σ : zSt} {a0 a1 a2 a3 a4 a5 a6 a7 a8 a9 a10 a11 a12 a13 a14 : Option Value} {t : List (Option Value)} {x : Nat} (hB : zB M n X) (hd : decode M.2.1 pc = .ok (.aload 15, 2)) (k : zW X (pc + 2) (a0 :: a1 :: a2 :: a3 :: a4 :: a5 :: a6 :: a7 :: a8 :: a9 :: a10 :: a11 :: a12 :: a13 :: a14 :: some (.ref x) :: t) (.ref x :: st) σ) : zW X pc (a0 :: a1 :: a2 :: a3 :: a4 :: a5 :: a6 :: a7 :: a8 :: a9 :: a10 :: a11 :: a12 :: a13 :: a14 :: some (.ref x) :: t) st σ := by
  intro H locs ls hP hS hL
  exact lv_aload hB.1 hB.2.1 hd (hL.2.2.2 15 _ rfl) (k H locs ls hP hS hL)
/-- the locals as the kit's rows want them -/
def zal (X : zCx) (lv : List (Option Value)) : List (Nat × Value) := (List.range lv.length).filterMap (fun j => match lv[j]? with | some (some v) => some (j, zV (zE X) v) | _ => none)
theorem zal_in {X : zCx} {lv : List (Option Value)} {j : Nat} {w : Value} : (j, w) ∈ zal X lv ↔ ∃ v, lv[j]? = some (some v) ∧ w = zV (zE X) v := by
  constructor
  · intro h
    obtain ⟨i, -, h2⟩ := List.mem_filterMap.mp h
    cases hi : lv[i]? with
    | none => rw [hi] at h2; simp at h2
    | some o =>
      cases o with
      | none => rw [hi] at h2; simp at h2
      | some v =>
        rw [hi] at h2
        simp at h2
        obtain ⟨rfl, rfl⟩ := h2
        exact ⟨v, hi, rfl⟩
  · rintro ⟨v, h1, rfl⟩
    refine List.mem_filterMap.mpr ⟨j, List.mem_range.mpr (List.getElem?_eq_some_iff.mp h1).1, ?_⟩
    rw [h1]
theorem zLoc.has {X : zCx} {lv : List (Option Value)} {ls : Array Slot} (h : zLoc X lv ls) : lv_has ls (zco X).maxLocals (zal X lv) :=
  ⟨h.1, h.2.2.1, fun q hq => by
    obtain ⟨v, h1, h2⟩ := zal_in.mp (show (q.1, q.2) ∈ zal X lv from hq)
    rw [h2]
    exact h.2.2.2 _ _ h1⟩
/-- behind a store of one word at i: the new locals lv' say no more than the store leaves -/
theorem zLoc.put1 {X : zCx} {lv lv' : List (Option Value)} {ls ls' : Array Slot} {i : Nat} {v : Value} (h : zLoc X lv ls) (hlen : lv'.length = lv.length)
    (hs : ∀ j w, lv'[j]? = some (some w) → (j = i ∧ w = v) ∨ (j ≠ i ∧ lv[j]? = some (some w) ∧ ¬ (j + 1 = i ∧ w.category = 2)))
    (h' : lv_has ls' (zco X).maxLocals ((i, zV (zE X) v) :: (zal X lv).filter (fun q => !(q.1 == i) && !(q.1 + 1 == i && q.2.category == 2)))) : zLoc X lv' ls' := by
  refine ⟨h'.1, by rw [hlen, h.2.1, h.1, h'.1], h'.2.1, fun j w hj => ?_⟩
  rcases hs j w hj with ⟨rfl, rfl⟩ | ⟨h1, h2, h3⟩
  · exact h'.2.2 _ List.mem_cons_self
  · refine h'.2.2 (j, zV (zE X) w) (List.mem_cons_of_mem _ (List.mem_filter.mpr ⟨zal_in.mpr ⟨w, h2, rfl⟩, ?_⟩))
    simp only [zV_cat, Bool.and_eq_true, Bool.not_eq_true', beq_eq_false_iff_ne, Bool.and_eq_false_iff, ne_eq]
    refine ⟨h1, ?_⟩
    by_cases q : j + 1 = i
    · exact Or.inr (fun z => h3 ⟨q, z⟩)
    · exact Or.inl q
theorem zLoc.put2 {X : zCx} {lv lv' : List (Option Value)} {ls ls' : Array Slot} {i : Nat} {v : Value} (h : zLoc X lv ls) (hlen : lv'.length = lv.length)
    (hs : ∀ j w, lv'[j]? = some (some w) → (j = i ∧ w = v) ∨ (j ≠ i ∧ j ≠ i + 1 ∧ lv[j]? = some (some w) ∧ ¬ (j + 1 = i ∧ w.category = 2)))
    (h' : lv_has ls' (zco X).maxLocals ((i, zV (zE X) v) :: (zal X lv).filter (fun q => !(q.1 == i) && (!(q.1 == i + 1) && !(q.1 + 1 == i && q.2.category == 2))))) : zLoc X lv' ls' := by
  refine ⟨h'.1, by rw [hlen, h.2.1, h.1, h'.1], h'.2.1, fun j w hj => ?_⟩
  rcases hs j w hj with ⟨rfl, rfl⟩ | ⟨h1, h1', h2, h3⟩
  · exact h'.2.2 _ List.mem_cons_self
  · refine h'.2.2 (j, zV (zE X) w) (List.mem_cons_of_mem _ (List.mem_filter.mpr ⟨zal_in.mpr ⟨w, h2, rfl⟩, ?_⟩))
    simp only [zV_cat, Bool.and_eq_true, Bool.not_eq_true', beq_eq_false_iff_ne, Bool.and_eq_false_iff, ne_eq]
    refine ⟨h1, h1', ?_⟩
    by_cases q : j + 1 = i
    · exact Or.inr (fun z => h3 ⟨q, z⟩)
    · exact Or.inl q
/-- not the first half of a long -/
def zc1 : Option Value → Bool
  | some (.long _) => false
  | some (.double _) => false
  | _ => true
theorem zc1_cat {o : Option Value} {w : Value} (h : zc1 o = true) (e : o = some w) : ¬ w.category = 2 := by
  subst e
  cases w <;> simp [zc1, Value.category] at h ⊢
theorem zput1_ok {lv : List (Option Value)} {i : Nat} {v : Value} (hi : i < lv.length) (hp : i = 0 ∨ ∃ o, lv[i - 1]? = some o ∧ zc1 o = true) : ∀ j w, (lv.set i (some v))[j]? = some (some w) → (j = i ∧ w = v) ∨ (j ≠ i ∧ lv[j]? = some (some w) ∧ ¬ (j + 1 = i ∧ w.category = 2)) := by
  intro j w h
  rw [List.getElem?_set] at h
  by_cases hj : i = j
  · subst hj
    rw [if_pos rfl, if_pos hi] at h
    simp at h
    exact Or.inl ⟨rfl, h.symm⟩
  · rw [if_neg hj] at h
    refine Or.inr ⟨fun e => hj e.symm, h, ?_⟩
    rintro ⟨e1, e2⟩
    rcases hp with q | ⟨o, q1, q2⟩
    · omega
    · have e3 : i - 1 = j := by omega
      rw [e3, h] at q1
      exact zc1_cat q2 (Option.some.inj q1).symm e2
theorem zput2_ok {lv : List (Option Value)} {i : Nat} {v : Value} (hi : i + 1 < lv.length) (hp : i = 0 ∨ ∃ o, lv[i - 1]? = some o ∧ zc1 o = true) : ∀ j w, ((lv.set i (some v)).set (i + 1) none)[j]? = some (some w) → (j = i ∧ w = v) ∨ (j ≠ i ∧ j ≠ i + 1 ∧ lv[j]? = some (some w) ∧ ¬ (j + 1 = i ∧ w.category = 2)) := by
  intro j w h
  rw [List.getElem?_set] at h
  by_cases hj1 : i + 1 = j
  · rw [if_pos hj1] at h
    split at h <;> simp at h
  · rw [if_neg hj1] at h
    rcases zput1_ok (by omega) hp j w h with q | ⟨q1, q2, q3⟩
    · exact Or.inl q
    · exact Or.inr ⟨q1, fun e => hj1 e.symm, q2, q3⟩
theorem zw_istore0 {M : zM} {n pc : Nat} {X : zCx} {st : List Value} {σ : zSt} {a0 : Option Value} {t : List (Option Value)} {x : Int32} (hB : zB M n X) (hd : decode M.2.1 pc = .ok (.istore_n 0, 1)) (k : zW X (pc + 1) (some (.int x) :: t) st σ) : zW X pc (a0 :: t) (.int x :: st) σ := by
  intro H locs ls hP hS hL
  have hi : 0 < (a0 :: t).length := by simp
  exact lv_istore_n hB.1 hB.2.1 hd rfl hL.has (by rw [← hL.1, ← hL.2.1]; exact hi) rfl (fun ls' h' => k H locs ls' hP hS (hL.put1 (v := .int x) rfl (zput1_ok hi (Or.inl rfl)) h'))
theorem zw_astore0 {M : zM} {n pc : Nat} {X : zCx} {st : List Value} {σ : zSt} {a0 : Option Value} {t : List (Option Value)} {x : Nat} (hB : zB M n X) (hd : decode M.2.1 pc = .ok (.astore_n 0, 1)) (k : zW X (pc + 1) (some (.ref x) :: t) st σ) : zW X pc (a0 :: t) (.ref x :: st) σ := by
  intro H locs ls hP hS hL
  have hi : 0 < (a0 :: t).length := by simp
  exact lv_astore_n hB.1 hB.2.1 hd rfl hL.has (by rw [← hL.1, ← hL.2.1]; exact hi) rfl (fun ls' h' => k H locs ls' hP hS (hL.put1 (v := .ref x) rfl (zput1_ok hi (Or.inl rfl)) h'))
theorem zw_lstore0 {M : zM} {n pc : Nat} {X : zCx} {st : List Value} {σ : zSt} {a0 a1 : Option Value} {t : List (Option Value)} {x : Int64} (hB : zB M n X) (hd : decode M.2.1 pc = .ok (.lstore_n 0, 1)) (k : zW X (pc + 1) (some (.long x) :: none :: t) st σ) : zW X pc (a0 :: a1 :: t) (.long x :: st) σ := by
  intro H locs ls hP hS hL
  have hi : 0 + 1 < (a0 :: a1 :: t).length := by simp
  exact lv_lstore_n hB.1 hB.2.1 hd rfl hL.has (by rw [← hL.1, ← hL.2.1]; exact hi) rfl (fun ls' h' => k H locs ls' hP hS (hL.put2 (v := .long x) rfl (zput2_ok hi (Or.inl rfl)) h'))
theorem zw_iinc0 {M : zM} {n pc : Nat} {X : zCx} {st : List Value} {σ : zSt} {t : List (Option Value)} {v : Int} {x y : Int32} (hB : zB M n X) (hd : decode M.2.1 pc = .ok (.iinc 0 v, 3)) (hv : x + Int32.ofInt v = y) (k : zW X (pc + 3) (some (.int y) :: t) st σ) : zW X pc (some (.int x) :: t) st σ := by
  intro H locs ls hP hS hL
  have hi : 0 < (some (.int x) :: t).length := by simp
  obtain ⟨q, hq⟩ := List.getElem?_of_mem (zal_in (X := X) (lv := some (.int x) :: t) (j := 0) (w := .int x) |>.mpr ⟨.int x, rfl, rfl⟩)
  exact lv_iinc hB.1 hB.2.1 hd hL.has hq hv (by rw [← hL.1, ← hL.2.1]; exact hi) rfl (fun ls' h' => k H locs ls' hP hS (hL.put1 (v := .int y) rfl (zput1_ok hi (Or.inl rfl)) h'))
theorem zw_istore1 {M : zM} {n pc : Nat} {X : zCx} {st : List Value} {σ : zSt} {a0 a1 : Option Value} {t : List (Option Value)} {x : Int32} (hB : zB M n X) (hd : decode M.2.1 pc = .ok (.istore_n 1, 1)) (hc : zc1 a0 = true) (k : zW X (pc + 1) (a0 :: some (.int x) :: t) st σ) : zW X pc (a0 :: a1 :: t) (.int x :: st) σ := by
  intro H locs ls hP hS hL
  have hi : 1 < (a0 :: a1 :: t).length := by simp
  exact lv_istore_n hB.1 hB.2.1 hd rfl hL.has (by rw [← hL.1, ← hL.2.1]; exact hi) rfl (fun ls' h' => k H locs ls' hP hS (hL.put1 (v := .int x) rfl (zput1_ok hi (Or.inr ⟨_, rfl, hc⟩)) h'))
theorem zw_astore1 {M : zM} {n pc : Nat} {X : zCx} {st : List Value} {σ : zSt} {a0 a1 : Option Value} {t : List (Option Value)} {x : Nat} (hB : zB M n X) (hd : decode M.2.1 pc = .ok (.astore_n 1, 1)) (hc : zc1 a0 = true) (k : zW X (pc + 1) (a0 :: some (.ref x) :: t) st σ) : zW X pc (a0 :: a1 :: t) (.ref x :: st) σ := by
  intro H locs ls hP hS hL
  have hi : 1 < (a0 :: a1 :: t).length := by simp
  exact lv_astore_n hB.1 hB.2.1 hd rfl hL.has (by rw [← hL.1, ← hL.2.1]; exact hi) rfl (fun ls' h' => k H locs ls' hP hS (hL.put1 (v := .ref x) rfl (zput1_ok hi (Or.inr ⟨_, rfl, hc⟩)) h'))
theorem zw_lstore1 {M : zM} {n pc : Nat} {X : zCx} {st : List Value} {σ : zSt} {a0 a1 a2 : Option Value} {t : List (Option Value)} {x : Int64} (hB : zB M n X) (hd : decode M.2.1 pc = .ok (.lstore_n 1, 1)) (hc : zc1 a0 = true) (k : zW X (pc + 1) (a0 :: some (.long x) :: none :: t) st σ) : zW X pc (a0 :: a1 :: a2 :: t) (.long x :: st) σ := by
  intro H locs ls hP hS hL
  have hi : 1 + 1 < (a0 :: a1 :: a2 :: t).length := by simp
  exact lv_lstore_n hB.1 hB.2.1 hd rfl hL.has (by rw [← hL.1, ← hL.2.1]; exact hi) rfl (fun ls' h' => k H locs ls' hP hS (hL.put2 (v := .long x) rfl (zput2_ok hi (Or.inr ⟨_, rfl, hc⟩)) h'))
theorem zw_iinc1 {M : zM} {n pc : Nat} {X : zCx} {st : List Value} {σ : zSt} {a0 : Option Value} {t : List (Option Value)} {v : Int} {x y : Int32} (hB : zB M n X) (hd : decode M.2.1 pc = .ok (.iinc 1 v, 3)) (hv : x + Int32.ofInt v = y) (hc : zc1 a0 = true) (k : zW X (pc + 3) (a0 :: some (.int y) :: t) st σ) : zW X pc (a0 :: some (.int x) :: t) st σ := by
  intro H locs ls hP hS hL
  have hi : 1 < (a0 :: some (.int x) :: t).length := by simp
  obtain ⟨q, hq⟩ := List.getElem?_of_mem (zal_in (X := X) (lv := a0 :: some (.int x) :: t) (j := 1) (w := .int x) |>.mpr ⟨.int x, rfl, rfl⟩)
  exact lv_iinc hB.1 hB.2.1 hd hL.has hq hv (by rw [← hL.1, ← hL.2.1]; exact hi) rfl (fun ls' h' => k H locs ls' hP hS (hL.put1 (v := .int y) rfl (zput1_ok hi (Or.inr ⟨_, rfl, hc⟩)) h'))
theorem zw_istore2 {M : zM} {n pc : Nat} {X : zCx} {st : List Value} {σ : zSt} {a0 a1 a2 : Option Value} {t : List (Option Value)} {x : Int32} (hB : zB M n X) (hd : decode M.2.1 pc = .ok (.istore_n 2, 1)) (hc : zc1 a1 = true) (k : zW X (pc + 1) (a0 :: a1 :: some (.int x) :: t) st σ) : zW X pc (a0 :: a1 :: a2 :: t) (.int x :: st) σ := by
  intro H locs ls hP hS hL
  have hi : 2 < (a0 :: a1 :: a2 :: t).length := by simp
  exact lv_istore_n hB.1 hB.2.1 hd rfl hL.has (by rw [← hL.1, ← hL.2.1]; exact hi) rfl (fun ls' h' => k H locs ls' hP hS (hL.put1 (v := .int x) rfl (zput1_ok hi (Or.inr ⟨_, rfl, hc⟩)) h'))
theorem zw_astore2 {M : zM} {n pc : Nat} {X : zCx} {st : List Value} {σ : zSt} {a0 a1 a2 : Option Value} {t : List (Option Value)} {x : Nat} (hB : zB M n X) (hd : decode M.2.1 pc = .ok (.astore_n 2, 1)) (hc : zc1 a1 = true) (k : zW X (pc + 1) (a0 :: a1 :: some (.ref x) :: t) st σ) : zW X pc (a0 :: a1 :: a2 :: t) (.ref x :: st) σ := by
  intro H locs ls hP hS hL
  have hi : 2 < (a0 :: a1 :: a2 :: t).length := by simp
  exact lv_astore_n hB.1 hB.2.1 hd rfl hL.has (by rw [← hL.1, ← hL.2.1]; exact hi) rfl (fun ls' h' => k H locs ls' hP hS (hL.put1 (v := .ref x) rfl (zput1_ok hi (Or.inr ⟨_, rfl, hc⟩)) h'))
theorem zw_lstore2 {M : zM} {n pc : Nat} {X : zCx} {st : List Value} {σ : zSt} {a0 a1 a2 a3 : Option Value} {t : List (Option Value)} {x : Int64} (hB : zB M n X) (hd : decode M.2.1 pc = .ok (.lstore_n 2, 1)) (hc : zc1 a1 = true) (k : zW X (pc + 1) (a0 :: a1 :: some (.long x) :: none :: t) st σ) : zW X pc (a0 :: a1 :: a2 :: a3 :: t) (.long x :: st) σ := by
  intro H locs ls hP hS hL
  have hi : 2 + 1 < (a0 :: a1 :: a2 :: a3 :: t).length := by simp
  exact lv_lstore_n hB.1 hB.2.1 hd rfl hL.has (by rw [← hL.1, ← hL.2.1]; exact hi) rfl (fun ls' h' => k H locs ls' hP hS (hL.put2 (v := .long x) rfl (zput2_ok hi (Or.inr ⟨_, rfl, hc⟩)) h'))
theorem zw_iinc2 {M : zM} {n pc : Nat} {X : zCx} {st : List Value} {σ : zSt} {a0 a1 : Option Value} {t : List (Option Value)} {v : Int} {x y : Int32} (hB : zB M n X) (hd : decode M.2.1 pc = .ok (.iinc 2 v, 3)) (hv : x + Int32.ofInt v = y) (hc : zc1 a1 = true) (k : zW X (pc + 3) (a0 :: a1 :: some (.int y) :: t) st σ) : zW X pc (a0 :: a1 :: some (.int x) :: t) st σ := by
  intro H locs ls hP hS hL
  have hi : 2 < (a0 :: a1 :: some (.int x) :: t).length := by simp
  obtain ⟨q, hq⟩ := List.getElem?_of_mem (zal_in (X := X) (lv := a0 :: a1 :: some (.int x) :: t) (j := 2) (w := .int x) |>.mpr ⟨.int x, rfl, rfl⟩)
  exact lv_iinc hB.1 hB.2.1 hd hL.has hq hv (by rw [← hL.1, ← hL.2.1]; exact hi) rfl (fun ls' h' => k H locs ls' hP hS (hL.put1 (v := .int y) rfl (zput1_ok hi (Or.inr ⟨_, rfl, hc⟩)) h'))
theorem zw_istore3 {M : zM} {n pc : Nat} {X : zCx} {st : List Value} {σ : zSt} {a0 a1 a2 a3 : Option Value} {t : List (Option Value)} {x : Int32} (hB : zB M n X) (hd : decode M.2.1 pc = .ok (.istore_n 3, 1)) (hc : zc1 a2 = true) (k : zW X (pc + 1) (a0 :: a1 :: a2 :: some (.int x) :: t) st σ) : zW X pc (a0 :: a1 :: a2 :: a3 :: t) (.int x :: st) σ := by
  intro H locs ls hP hS hL
  have hi : 3 < (a0 :: a1 :: a2 :: a3 :: t).length := by simp
  exact lv_istore_n hB.1 hB.2.1 hd rfl hL.has (by rw [← hL.1, ← hL.2.1]; exact hi) rfl (fun ls' h' => k H locs ls' hP hS (hL.put1 (v := .int x) rfl (zput1_ok hi (Or.inr ⟨_, rfl, hc⟩)) h'))
theorem zw_astore3 {M : zM} {n pc : Nat} {X : zCx} {st : List Value} {σ : zSt} {a0 a1 a2 a3 : Option Value} {t : List (Option Value)} {x : Nat} (hB : zB M n X) (hd : decode M.2.1 pc = .ok (.astore_n 3, 1)) (hc : zc1 a2 = true) (k : zW X (pc + 1) (a0 :: a1 :: a2 :: some (.ref x) :: t) st σ) : zW X pc (a0 :: a1 :: a2 :: a3 :: t) (.ref x :: st) σ := by
  intro H locs ls hP hS hL
  have hi : 3 < (a0 :: a1 :: a2 :: a3 :: t).length := by simp
  exact lv_astore_n hB.1 hB.2.1 hd rfl hL.has (by rw [← hL.1, ← hL.2.1]; exact hi) rfl (fun ls' h' => k H locs ls' hP hS (hL.put1 (v := .ref x) rfl (zput1_ok hi (Or.inr ⟨_, rfl, hc⟩)) h'))
theorem zw_lstore3 {M : zM} {n pc : Nat} {X : zCx} {st : List Value} {σ : zSt} {a0 a1 a2 a3 a4 : Option Value} {t : List (Option Value)} {x : Int64} (hB : zB M n X) (hd : decode M.2.1 pc = .ok (.lstore_n 3, 1)) (hc : zc1 a2 = true) (k : zW X (pc + 1) (a0 :: a1 :: a2 :: some (.long x) :: none :: t) st σ) : zW X pc (a0 :: a1 :: a2 :: a3 :: a4 :: t) (.long x :: st) σ := by
  intro H locs ls hP hS hL
  have hi : 3 + 1 < (a0 :: a1 :: a2 :: a3 :: a4 :: t).length := by simp
  exact lv_lstore_n hB.1 hB.2.1 hd rfl hL.has (by rw [← hL.1, ← hL.2.1]; exact hi) rfl (fun ls' h' => k H locs ls' hP hS (hL.put2 (v := .long x) rfl (zput2_ok hi (Or.inr ⟨_, rfl, hc⟩)) h'))
theorem zw_iinc3 {M : zM} {n pc : Nat} {X : zCx} {st : List Value} {σ : zSt} {a0 a1 a2 : Option Value} {t : List (Option Value)} {v : Int} {x y : Int32} (hB : zB M n X) (hd : decode M.2.1 pc = .ok (.iinc 3 v, 3)) (hv : x + Int32.ofInt v = y) (hc : zc1 a2 = true) (k : zW X (pc + 3) (a0 :: a1 :: a2 :: some (.int y) :: t) st σ) : zW X pc (a0 :: a1 :: a2 :: some (.int x) :: t) st σ := by
  intro H locs ls hP hS hL
  have hi : 3 < (a0 :: a1 :: a2 :: some (.int x) :: t).length := by simp
  obtain ⟨q, hq⟩ := List.getElem?_of_mem (zal_in (X := X) (lv := a0 :: a1 :: a2 :: some (.int x) :: t) (j := 3) (w := .int x) |>.mpr ⟨.int x, rfl, rfl⟩)
  exact lv_iinc hB.1 hB.2.1 hd hL.has hq hv (by rw [← hL.1, ← hL.2.1]; exact hi) rfl (fun ls' h' => k H locs ls' hP hS (hL.put1 (v := .int y) rfl (zput1_ok hi (Or.inr ⟨_, rfl, hc⟩)) h'))
theorem zw_istore4 {M : zM} {n pc : Nat} {X : zCx} {st : List Value} {σ : zSt} {a0 a1 a2 a3 a4 : Option Value} {t : List (Option Value)} {x : Int32} (hB : zB M n X) (hd : decode M.2.1 pc = .ok (.istore 4, 2)) (hc : zc1 a3 = true) (k : zW X (pc + 2) (a0 :: a1 :: a2 :: a3 :: some (.int x) :: t) st σ) : zW X pc (a0 :: a1 :: a2 :: a3 :: a4 :: t) (.int x :: st) σ := by
  intro H locs ls hP hS hL
  have hi : 4 < (a0 :: a1 :: a2 :: a3 :: a4 :: t).length := by simp
  exact lv_istore hB.1 hB.2.1 hd hL.has (by rw [← hL.1, ← hL.2.1]; exact hi) rfl (fun ls' h' => k H locs ls' hP hS (hL.put1 (v := .int x) rfl (zput1_ok hi (Or.inr ⟨_, rfl, hc⟩)) h'))
theorem zw_astore4 {M : zM} {n pc : Nat} {X : zCx} {st : List Value} {σ : zSt} {a0 a1 a2 a3 a4 : Option Value} {t : List (Option Value)} {x : Nat} (hB : zB M n X) (hd : decode M.2.1 pc = .ok (.astore 4, 2)) (hc : zc1 a3 = true) (k : zW X (pc + 2) (a0 :: a1 :: a2 :: a3 :: some (.ref x) :: t) st σ) : zW X pc (a0 :: a1 :: a2 :: a3 :: a4 :: t) (.ref x :: st) σ := by
  intro H locs ls hP hS hL
  have hi : 4 < (a0 :: a1 :: a2 :: a3 :: a4 :: t).length := by simp
  exact lv_astore hB.1 hB.2.1 hd hL.has (by rw [← hL.1, ← hL.2.1]; exact hi) rfl (fun ls' h' => k H locs ls' hP hS (hL.put1 (v := .ref x) rfl (zput1_ok hi (Or.inr ⟨_, rfl, hc⟩)) h'))
theorem zw_lstore4 {M : zM} {n pc : Nat} {X : zCx} {st : List Value} {σ : zSt} {a0 a1 a2 a3 a4 a5 : Option Value} {t : List (Option Value)} {x : Int64} (hB : zB M n X) (hd : decode M.2.1 pc = .ok (.lstore 4, 2)) (hc : zc1 a3 = true) (k : zW X (pc + 2) (a0 :: a1 :: a2 :: a3 :: some (.long x) :: none :: t) st σ) : zW X pc (a0 :: a1 :: a2 :: a3 :: a4 :: a5 :: t) (.long x :: st) σ := by
  intro H locs ls hP hS hL
  have hi : 4 + 1 < (a0 :: a1 :: a2 :: a3 :: a4 :: a5 :: t).length := by simp
  exact lv_lstore hB.1 hB.2.1 hd hL.has (by rw [← hL.1, ← hL.2.1]; exact hi) rfl (fun ls' h' => k H locs ls' hP hS (hL.put2 (v := .long x) rfl (zput2_ok hi (Or.inr ⟨_, rfl, hc⟩)) h'))
theorem zw_iinc4 {M : zM} {n pc : Nat} {X : zCx} {st : List Value} {σ : zSt} {a0 a1 a2 a3 : Option Value} {t : List (Option Value)} {v : Int} {x y : Int32} (hB : zB M n X) (hd : decode M.2.1 pc = .ok (.iinc 4 v, 3)) (hv : x + Int32.ofInt v = y) (hc : zc1 a3 = true) (k : zW X (pc + 3) (a0 :: a1 :: a2 :: a3 :: some (.int y) :: t) st σ) : zW X pc (a0 :: a1 :: a2 :: a3 :: some (.int x) :: t) st σ := by
  intro H locs ls hP hS hL
  have hi : 4 < (a0 :: a1 :: a2 :: a3 :: some (.int x) :: t).length := by simp
  obtain ⟨q, hq⟩ := List.getElem?_of_mem (zal_in (X := X) (lv := a0 :: a1 :: a2 :: a3 :: some (.int x) :: t) (j := 4) (w := .int x) |>.mpr ⟨.int x, rfl, rfl⟩)
  exact lv_iinc hB.1 hB.2.1 hd hL.has hq hv (by rw [← hL.1, ← hL.2.1]; exact hi) rfl (fun ls' h' => k H locs ls' hP hS (hL.put1 (v := .int y) rfl (zput1_ok hi (Or.inr ⟨_, rfl, hc⟩)) h'))
theorem zw_istore5 {M : zM} {n pc : Nat} {X : zCx} {st : List Value} {σ : zSt} {a0 a1 a2 a3 a4 a5 : Option Value} {t : List (Option Value)} {x : Int32} (hB : zB M n X) (hd : decode M.2.1 pc = .ok (.istore 5, 2)) (hc : zc1 a4 = true) (k : zW X (pc + 2) (a0 :: a1 :: a2 :: a3 :: a4 :: some (.int x) :: t) st σ) : zW X pc (a0 :: a1 :: a2 :: a3 :: a4 :: a5 :: t) (.int x :: st) σ := by
  intro H locs ls hP hS hL
  have hi : 5 < (a0 :: a1 :: a2 :: a3 :: a4 :: a5 :: t).length := by simp
  exact lv_istore hB.1 hB.2.1 hd hL.has (by rw [← hL.1, ← hL.2.1]; exact hi) rfl (fun ls' h' => k H locs ls' hP hS (hL.put1 (v := .int x) rfl (zput1_ok hi (Or.inr ⟨_, rfl, hc⟩)) h'))
theorem zw_astore5 {M : zM} {n pc : Nat} {X : zCx} {st : List Value} {σ : zSt} {a0 a1 a2 a3 a4 a5 : Option Value} {t : List (Option Value)} {x : Nat} (hB : zB M n X) (hd : decode M.2.1 pc = .ok (.astore 5, 2)) (hc : zc1 a4 = true) (k : zW X (pc + 2) (a0 :: a1 :: a2 :: a3 :: a4 :: some (.ref x) :: t) st σ) : zW X pc (a0 :: a1 :: a2 :: a3 :: a4 :: a5 :: t) (.ref x :: st) σ := by
  intro H locs ls hP hS hL
  have hi : 5 < (a0 :: a1 :: a2 :: a3 :: a4 :: a5 :: t).length := by simp
  exact lv_astore hB.1 hB.2.1 hd hL.has (by rw [← hL.1, ← hL.2.1]; exact hi) rfl (fun ls' h' => k H locs ls' hP hS (hL.put1 (v := .ref x) rfl (zput1_ok hi (Or.inr ⟨_, rfl, hc⟩)) h'))
theorem zw_lstore5 {M : zM} {n pc : Nat} {X : zCx} {st : List Value} {σ : zSt} {a0 a1 a2 a3 a4 a5 a6 : Option Value} {t : List (Option Value)} {x : Int64} (hB : zB M n X) (hd : decode M.2.1 pc = .ok (.lstore 5, 2)) (hc : zc1 a4 = true) (k : zW X (pc + 2) (a0 :: a1 :: a2 :: a3 :: a4 :: some (.long x) :: none :: t) st σ) : zW X pc (a0 :: a1 :: a2 :: a3 :: a4 :: a5 :: a6 :: t) (.long x :: st) σ := by
  intro H locs ls hP hS hL
  have hi : 5 + 1 < (a0 :: a1 :: a2 :: a3 :: a4 :: a5 :: a6 :: t).length := by simp
  exact lv_lstore hB.1 hB.2.1 hd hL.has (by rw [← hL.1, ← hL.2.1]; exact hi) rfl (fun ls' h' => k H locs ls' hP hS (hL.put2 (v := .long x) rfl (zput2_ok hi (Or.inr ⟨_, rfl, hc⟩)) h'))
theorem zw_iinc5 {M : zM} {n pc : Nat} {X : zCx} {st : List Value} {σ : zSt} {a0 a1 a2 a3 a4 : Option Value} {t : List (Option Value)} {v : Int} {x y : Int32} (hB : zB M n X) (hd : decode M.2.1 pc = .ok (.iinc 5 v, 3)) (hv : x + Int32.ofInt v = y) (hc : zc1 a4 = true) (k : zW X (pc + 3) (a0 :: a1 :: a2 :: a3 :: a4 :: some (.int y) :: t) st σ) : zW X pc (a0 :: a1 :: a2 :: a3 :: a4 :: some (.int x) :: t) st σ := by
  intro H locs ls hP hS hL
  have hi : 5 < (a0 :: a1 :: a2 :: a3 :: a4 :: some (.int x) :: t).length := by simp
  obtain ⟨q, hq⟩ := List.getElem?_of_mem (zal_in (X := X) (lv := a0 :: a1 :: a2 :: a3 :: a4 :: some (.int x) :: t) (j := 5) (w := .int x) |>.mpr ⟨.int x, rfl, rfl⟩)
  exact lv_iinc hB.1 hB.2.1 hd hL.has hq hv (by rw [← hL.1, ← hL.2.1]; exact hi) rfl (fun ls' h' => k H locs ls' hP hS (hL.put1 (v := .int y) rfl (zput1_ok hi (Or.inr ⟨_, rfl, hc⟩)) h'))
theorem zw_istore6 {M : zM} {n pc : Nat} {X : zCx} {st : List Value} {σ : zSt} {a0 a1 a2 a3 a4 a5 a6 : Option Value} {t : List (Option Value)} {x : Int32} (hB : zB M n X) (hd : decode M.2.1 pc = .ok (.istore 6, 2)) (hc : zc1 a5 = true) (k : zW X (pc + 2) (a0 :: a1 :: a2 :: a3 :: a4 :: a5 :: some (.int x) :: t) st σ) : zW X pc (a0 :: a1 :: a2 :: a3 :: a4 :: a5 :: a6 :: t) (.int x :: st) σ := by
  intro H locs ls hP hS hL
  have hi : 6 < (a0 :: a1 :: a2 :: a3 :: a4 :: a5 :: a6 :: t).length := by simp
  exact lv_istore hB.1 hB.2.1 hd hL.has (by rw [← hL.1, ← hL.2.1]; exact hi) rfl (fun ls' h' => k H locs ls' hP hS (hL.put1 (v := .int x) rfl (zput1_ok hi (Or.inr ⟨_, rfl, hc⟩)) h'))
theorem zw_astore6 {M : zM} {n pc : Nat} {X : zCx} {st : List Value} {σ : zSt} {a0 a1 a2 a3 a4 a5 a6 : Option Value} {t : List (Option Value)} {x : Nat} (hB : zB M n X) (hd : decode M.2.1 pc = .ok (.astore 6, 2)) (hc : zc1 a5 = true) (k : zW X (pc + 2) (a0 :: a1 :: a2 :: a3 :: a4 :: a5 :: some (.ref x) :: t) st σ) : zW X pc (a0 :: a1 :: a2 :: a3 :: a4 :: a5 :: a6 :: t) (.ref x :: st) σ := by
  intro H locs ls hP hS hL
  have hi : 6 < (a0 :: a1 :: a2 :: a3 :: a4 :: a5 :: a6 :: t).length := by simp
  exact lv_astore hB.1 hB.2.1 hd hL.has (by rw [← hL.1, ← hL.2.1]; exact hi) rfl (fun ls' h' => k H locs ls' hP hS (hL.put1 (v := .ref x) rfl (zput1_ok hi (Or.inr ⟨_, rfl, hc⟩)) h'))
theorem zw_lstore6 {M : zM} {n pc : Nat} {X : zCx} {st : List Value} {σ : zSt} {a0 a1 a2 a3 a4 a5 a6 a7 : Option Value} {t : List (Option Value)} {x : Int64} (hB : zB M n X) (hd : decode M.2.1 pc = .ok (.lstore 6, 2)) (hc : zc1 a5 = true) (k : zW X (pc + 2) (a0 :: a1 :: a2 :: a3 :: a4 :: a5 :: some (.long x) :: none :: t) st σ) : zW X pc (a0 :: a1 :: a2 :: a3 :: a4 :: a5 :: a6 :: a7 :: t) (.long x :: st) σ := by
  intro H locs ls hP hS hL
  have hi : 6 + 1 < (a0 :: a1 :: a2 :: a3 :: a4 :: a5 :: a6 :: a7 :: t).length := by simp
  exact lv_lstore hB.1 hB.2.1 hd hL.has (by rw [← hL.1, ← hL.2.1]; exact hi) rfl (fun ls' h' => k H locs ls' hP hS (hL.put2 (v := .long x) rfl (zput2_ok hi (Or.inr ⟨_, rfl, hc⟩)) h'))
theorem zw_iinc6 {M : zM} {n pc : Nat} {X : zCx} {st : List Value} {σ : zSt} {a0 a1 a2 a3 a4 a5 : Option Value} {t : List (Option Value)} {v : Int} {x y : Int32} (hB : zB M n X) (hd : decode M.2.1 pc = .ok (.iinc 6 v, 3)) (hv : x + Int32.ofInt v = y) (hc : zc1 a5 = true) (k : zW X (pc + 3) (a0 :: a1 :: a2 :: a3 :: a4 :: a5 :: some (.int y) :: t) st σ) : zW X pc (a0 :: a1 :: a2 :: a3 :: a4 :: a5 :: some (.int x) :: t) st σ := by
  intro H locs ls hP hS hL
  have hi : 6 < (a0 :: a1 :: a2 :: a3 :: a4 :: a5 :: some (.int x) :: t).length := by simp
  obtain ⟨q, hq⟩ := List.getElem?_of_mem (zal_in (X := X) (lv := a0 :: a1 :: a2 :: a3 :: a4 :: a5 :: some (.int x) :: t) (j := 6) (w := .int x) |>.mpr ⟨.int x, rfl, rfl⟩)
  exact lv_iinc hB.1 hB.2.1 hd hL.has hq hv (by rw [← hL.1, ← hL.2.1]; exact hi) rfl (fun ls' h' => k H locs ls' hP hS (hL.put1 (v := .int y) rfl (zput1_ok hi (Or.inr ⟨_, rfl, hc⟩)) h'))
theorem zw_istore7 {M : zM} {n pc : Nat} {X : zCx} {st : List Value} {σ : zSt} {a0 a1 a2 a3 a4 a5 a6 a7 : Option Value} {t : List (Option Value)} {x : Int32} (hB : zB M n X) (hd : decode M.2.1 pc = .ok (.istore 7, 2)) (hc : zc1 a6 = true) (k : zW X (pc + 2) (a0 :: a1 :: a2 :: a3 :: a4 :: a5 :: a6 :: some (.int x) :: t) st σ) : zW X pc (a0 :: a1 :: a2 :: a3 :: a4 :: a5 :: a6 :: a7 :: t) (.int x :: st) σ := by
  intro H locs ls hP hS hL
  have hi : 7 < (a0 :: a1 :: a2 :: a3 :: a4 :: a5 :: a6 :: a7 :: t).length := by simp
  exact lv_istore hB.1 hB.2.1 hd hL.has (by rw [← hL.1, ← hL.2.1]; exact hi) rfl (fun ls' h' => k H locs ls' hP hS (hL.put1 (v := .int x) rfl (zput1_ok hi (Or.inr ⟨_, rfl, hc⟩)) h'))
theorem zw_astore7 {M : zM} {n pc : Nat} {X : zCx} {st : List Value} {σ : zSt} {a0 a1 a2 a3 a4 a5 a6 a7 : Option Value} {t : List (Option Value)} {x : Nat} (hB : zB M n X) (hd : decode M.2.1 pc = .ok (.astore 7, 2)) (hc : zc1 a6 = true) (k : zW X (pc + 2) (a0 :: a1 :: a2 :: a3 :: a4 :: a5 :: a6 :: some (.ref x) :: t) st σ) : zW X pc (a0 :: a1 :: a2 :: a3 :: a4 :: a5 :: a6 :: a7 :: t) (.ref x :: st) σ := by
  intro H locs ls hP hS hL
  have hi : 7 < (a0 :: a1 :: a2 :: a3 :: a4 :: a5 :: a6 :: a7 :: t).length := by simp
  exact lv_astore hB.1 hB.2.1 hd hL.has (by rw [← hL.1, ← hL.2.1]; exact hi) rfl (fun ls' h' => k H locs ls' hP hS (hL.put1 (v := .ref x) rfl (zput1_ok hi (Or.inr ⟨_, rfl, hc⟩)) h'))
theorem zw_lstore7 {M : zM} {n pc : Nat} {X : zCx} {st : List Value} {σ : zSt} {a0 a1 a2 a3 a4 a5 a6 a7 a8 : Option Value} {t : List (Option Value)} {x : Int64} (hB : zB M n X) (hd : decode M.2.1 pc = .ok (.lstore 7, 2)) (hc : zc1 a6 = true) (k : zW X (pc + 2) (a0 :: a1 :: a2 :: a3 :: a4 :: a5 :: a6 :: some (.long x) :: none :: t) st σ) : zW X pc (a0 :: a1 :: a2 :: a3 :: a4 :: a5 :: a6 :: a7 :: a8 :: t) (.long x :: st) σ := by
  intro H locs ls hP hS hL
  have hi : 7 + 1 < (a0 :: a1 :: a2 :: a3 :: a4 :: a5 :: a6 :: a7 :: a8 :: t).length := by simp
  exact lv_lstore hB.1 hB.2.1 hd hL.has (by rw [← hL.1, ← hL.2.1]; exact hi) rfl (fun ls' h' => k H locs ls' hP hS (hL.put2 (v := .long x) rfl (zput2_ok hi (Or.inr ⟨_, rfl, hc⟩)) h'))
theorem zw_iinc7 {M : zM} {n pc : Nat} {X : zCx} {st : List Value} {σ : zSt} {a0 a1 a2 a3 a4 a5 a6 : Option Value} {t : List (Option Value)} {v : Int} {x y : Int32} (hB : zB M n X) (hd : decode M.2.1 pc = .ok (.iinc 7 v, 3)) (hv : x + Int32.ofInt v = y) (hc : zc1 a6 = true) (k : zW X (pc + 3) (a0 :: a1 :: a2 :: a3 :: a4 :: a5 :: a6 :: some (.int y) :: t) st σ) : zW X pc (a0 :: a1 :: a2 :: a3 :: a4 :: a5 :: a6 :: some (.int x) :: t) st σ := by
  intro H locs ls hP hS hL
  have hi : 7 < (a0 :: a1 :: a2 :: a3 :: a4 :: a5 :: a6 :: some (.int x) :: t).length := by simp
  obtain ⟨q, hq⟩ := List.getElem?_of_mem (zal_in (X := X) (lv := a0 :: a1 :: a2 :: a3 :: a4 :: a5 :: a6 :: some (.int x) :: t) (j := 7) (w := .int x) |>.mpr ⟨.int x, rfl, rfl⟩)
  exact lv_iinc hB.1 hB.2.1 hd hL.has hq hv (by rw [← hL.1, ← hL.2.1]; exact hi) rfl (fun ls' h' => k H locs ls' hP hS (hL.put1 (v := .int y) rfl (zput1_ok hi (Or.inr ⟨_, rfl, hc⟩)) h'))
theorem zw_istore8 {M : zM} {n pc : Nat} {X : zCx} {st : List Value} {σ : zSt} {a0 a1 a2 a3 a4 a5 a6 a7 a8 : Option Value} {t : List (Option Value)} {x : Int32} (hB : zB M n X) (hd : decode M.2.1 pc = .ok (.istore 8, 2)) (hc : zc1 a7 = true) (k : zW X (pc + 2) (a0 :: a1 :: a2 :: a3 :: a4 :: a5 :: a6 :: a7 :: some (.int x) :: t) st σ) : zW X pc (a0 :: a1 :: a2 :: a3 :: a4 :: a5 :: a6 :: a7 :: a8 :: t) (.int x :: st) σ := by
  intro H locs ls hP hS hL
  have hi : 8 < (a0 :: a1 :: a2 :: a3 :: a4 :: a5 :: a6 :: a7 :: a8 :: t).length := by simp
  exact lv_istore hB.1 hB.2.1 hd hL.has (by rw [← hL.1, ← hL.2.1]; exact hi) rfl (fun ls' h' => k H locs ls' hP hS (hL.put1 (v := .int x) rfl (zput1_ok hi (Or.inr ⟨_, rfl, hc⟩)) h'))
theorem zw_astore8 {M : zM} {n pc : Nat} {X : zCx} {st : List Value} {σ : zSt} {a0 a1 a2 a3 a4 a5 a6 a7 a8 : Option Value} {t : List (Option Value)} {x : Nat} (hB : zB M n X) (hd : decode M.2.1 pc = .ok (.astore 8, 2)) (hc : zc1 a7 = true) (k : zW X (pc + 2) (a0 :: a1 :: a2 :: a3 :: a4 :: a5 :: a6 :: a7 :: some (.ref x) :: t) st σ) : zW X pc (a0 :: a1 :: a2 :: a3 :: a4 :: a5 :: a6 :: a7 :: a8 :: t) (.ref x :: st) σ := by
  intro H locs ls hP hS hL
  have hi : 8 < (a0 :: a1 :: a2 :: a3 :: a4 :: a5 :: a6 :: a7 :: a8 :: t).length := by simp
  exact lv_astore hB.1 hB.2.1 hd hL.has (by rw [← hL.1, ← hL.2.1]; exact hi) rfl (fun ls' h' => k H locs ls' hP hS (hL.put1 (v := .ref x) rfl (zput1_ok hi (Or.inr ⟨_, rfl, hc⟩)) h'))
theorem zw_lstore8 {M : zM} {n pc : Nat} {X : zCx} {st : List Value} {σ : zSt} {a0 a1 a2 a3 a4 a5 a6 a7 a8 a9 : Option Value} {t : List (Option Value)} {x : Int64} (hB : zB M n X) (hd : decode M.2.1 pc = .ok (.lstore 8, 2)) (hc : zc1 a7 = true) (k : zW X (pc + 2) (a0 :: a1 :: a2 :: a3 :: a4 :: a5 :: a6 :: a7 :: some (.long x) :: none :: t) st σ) : zW X pc (a0 :: a1 :: a2 :: a3 :: a4 :: a5 :: a6 :: a7 :: a8 :: a9 :: t) (.long x :: st) σ := by
  intro H locs ls hP hS hL
  have hi : 8 + 1 < (a0 :: a1 :: a2 :: a3 :: a4 :: a5 :: a6 :: a7 :: a8 :: a9 :: t).length := by simp
  exact lv_lstore hB.1 hB.2.1 hd hL.has (by rw [← hL.1, ← hL.2.1]; exact hi) rfl (fun ls' h' => k H locs ls' hP hS (hL.put2 (v := .long x) rfl (zput2_ok hi (Or.inr ⟨_, rfl, hc⟩)) h'))
theorem zw_iinc8 {M : zM} {n pc : Nat} {X : zCx} {st : List Value} {σ : zSt} {a0 a1 a2 a3 a4 a5 a6 a7 : Option Value} {t : List (Option Value)} {v : Int} {x y : Int32} (hB : zB M n X) (hd : decode M.2.1 pc = .ok (.iinc 8 v, 3)) (hv : x + Int32.ofInt v = y) (hc : zc1 a7 = true) (k : zW X (pc + 3) (a0 :: a1 :: a2 :: a3 :: a4 :: a5 :: a6 :: a7 :: some (.int y) :: t) st σ) : zW X pc (a0 :: a1 :: a2 :: a3 :: a4 :: a5 :: a6 :: a7 :: some (.int x) :: t) st σ := by
  intro H locs ls hP hS hL
  have hi : 8 < (a0 :: a1 :: a2 :: a3 :: a4 :: a5 :: a6 :: a7 :: some (.int x) :: t).length := by simp
  obtain ⟨q, hq⟩ := List.getElem?_of_mem (zal_in (X := X) (lv := a0 :: a1 :: a2 :: a3 :: a4 :: a5 :: a6 :: a7 :: some (.int x) :: t) (j := 8) (w := .int x) |>.mpr ⟨.int x, rfl, rfl⟩)
  exact lv_iinc hB.1 hB.2.1 hd hL.has hq hv (by rw [← hL.1, ← hL.2.1]; exact hi) rfl (fun ls' h' => k H locs ls' hP hS (hL.put1 (v := .int y) rfl (zput1_ok hi (Or.inr ⟨_, rfl, hc⟩)) h'))
theorem zw_istore9 {M : zM} {n pc : Nat} {X : zCx} {st : List Value} {σ : zSt} {a0 a1 a2 a3 a4 a5 a6 a7 a8 a9 : Option Value} {t : List (Option Value)} {x : Int32} (hB : zB M n X) (hd : decode M.2.1 pc = .ok (.istore 9, 2)) (hc : zc1 a8 = true) (k : zW X (pc + 2) (a0 :: a1 :: a2 :: a3 :: a4 :: a5 :: a6 :: a7 :: a8 :: some (.int x) :: t) st σ) : zW X pc (a0 :: a1 :: a2 :: a3 :: a4 :: a5 :: a6 :: a7 :: a8 :: a9 :: t) (.int x :: st) σ := by
  intro H locs ls hP hS hL
  have hi : 9 < (a0 :: a1 :: a2 :: a3 :: a4 :: a5 :: a6 :: a7 :: a8 :: a9 :: t).length := by simp
  exact lv_istore hB.1 hB.2.1 hd hL.has (by rw [← hL.1, ← hL.2.1]; exact hi) rfl (fun ls' h' => k H locs ls' hP hS (hL.put1 (v := .int x) rfl (zput1_ok hi (Or.inr ⟨_, rfl, hc⟩)) h'))
theorem zw_astore9 {M : zM} {n pc : Nat} {X : zCx} {st : List Value} {σ : zSt} {a0 a1 a2 a3 a4 a5 a6 a7 a8 a9 : Option Value} {t : List (Option Value)} {x : Nat} (hB : zB M n X) (hd : decode M.2.1 pc = .ok (.astore 9, 2)) (hc : zc1 a8 = true) (k : zW X (pc + 2) (a0 :: a1 :: a2 :: a3 :: a4 :: a5 :: a6 :: a7 :: a8 :: some (.ref x) :: t) st σ) : zW X pc (a0 :: a1 :: a2 :: a3 :: a4 :: a5 :: a6 :: a7 :: a8 :: a9 :: t) (.ref x :: st) σ := by
  intro H locs ls hP hS hL
  have hi : 9 < (a0 :: a1 :: a2 :: a3 :: a4 :: a5 :: a6 :: a7 :: a8 :: a9 :: t).length := by simp
  exact lv_astore hB.1 hB.2.1 hd hL.has (by rw [← hL.1, ← hL.2.1]; exact hi) rfl (fun ls' h' => k H locs ls' hP hS (hL.put1 (v := .ref x) rfl (zput1_ok hi (Or.inr ⟨_, rfl, hc⟩)) h'))
theorem zw_lstore9 {M : zM} {n pc : Nat} {X : zCx} {st : List Value} {σ : zSt} {a0 a1 a2 a3 a4 a5 a6 a7 a8 a9 a10 : Option Value} {t : List (Option Value)} {x : Int64} (hB : zB M n X) (hd : decode M.2.1 pc = .ok (.lstore 9, 2)) (hc : zc1 a8 = true) (k : zW X (pc + 2) (a0 :: a1 :: a2 :: a3 :: a4 :: a5 :: a6 :: a7 :: a8 :: some (.long x) :: none :: t) st σ) : zW X pc (a0 :: a1 :: a2 :: a3 :: a4 :: a5 :: a6 :: a7 :: a8 :: a9 :: a10 :: t) (.long x :: st) σ := by
  intro H locs ls hP hS hL
  have hi : 9 + 1 < (a0 :: a1 :: a2 :: a3 :: a4 :: a5 :: a6 :: a7 :: a8 :: a9 :: a10 :: t).length := by simp
  exact lv_lstore hB.1 hB.2.1 hd hL.has (by rw [← hL.1, ← hL.2.1]; exact hi) rfl (fun ls' h' => k H locs ls' hP hS (hL.put2 (v := .long x) rfl (zput2_ok hi (Or.inr ⟨_, rfl, hc⟩)) h'))
theorem zw_iinc9 {M : zM} {n pc : Nat} {X : zCx} {st : List Value} {σ : zSt} {a0 a1 a2 a3 a4 a5 a6 a7 a8 : Option Value} {t : List (Option Value)} {v : Int} {x y : Int32} (hB : zB M n X) (hd : decode M.2.1 pc = .ok (.iinc 9 v, 3)) (hv : x + Int32.ofInt v = y) (hc : zc1 a8 = true) (k : zW X (pc + 3) (a0 :: a1 :: a2 :: a3 :: a4 :: a5 :: a6 :: a7 :: a8 :: some (.int y) :: t) st σ) : zW X pc (a0 :: a1 :: a2 :: a3 :: a4 :: a5 :: a6 :: a7 :: a8 :: some (.int x) :: t) st σ := by
  intro H locs ls hP hS hL
  have hi : 9 < (a0 :: a1 :: a2 :: a3 :: a4 :: a5 :: a6 :: a7 :: a8 :: some (.int x) :: t).length := by simp
  obtain ⟨q, hq⟩ := List.getElem?_of_mem (zal_in (X := X) (lv := a0 :: a1 :: a2 :: a3 :: a4 :: a5 :: a6 :: a7 :: a8 :: some (.int x) :: t) (j := 9) (w := .int x) |>.mpr ⟨.int x, rfl, rfl⟩)
  exact lv_iinc hB.1 hB.2.1 hd hL.has hq hv (by rw [← hL.1, ← hL.2.1]; exact hi) rfl (fun ls' h' => k H locs ls' hP hS (hL.put1 (v := .int y) rfl (zput1_ok hi (Or.inr ⟨_, rfl, hc⟩)) h'))
theorem zw_istore10 {M : zM} {n pc : Nat} {X : zCx} {st : List Value} {σ : zSt} {a0 a1 a2 a3 a4 a5 a6 a7 a8 a9 a10 : Option Value} {t : List (Option Value)} {x : Int32} (hB : zB M n X) (hd : decode M.2.1 pc = .ok (.istore 10, 2)) (hc : zc1 a9 = true) (k : zW X (pc + 2) (a0 :: a1 :: a2 :: a3 :: a4 :: a5 :: a6 :: a7 :: a8 :: a9 :: some (.int x) :: t) st σ) : zW X pc (a0 :: a1 :: a2 :: a3 :: a4 :: a5 :: a6 :: a7 :: a8 :: a9 :: a10 :: t) (.int x :: st) σ := by
  intro H locs ls hP hS hL
  have hi : 10 < (a0 :: a1 :: a2 :: a3 :: a4 :: a5 :: a6 :: a7 :: a8 :: a9 :: a10 :: t).length := by simp
  exact lv_istore hB.1 hB.2.1 hd hL.has (by rw [← hL.1, ← hL.2.1]; exact hi) rfl (fun ls' h' => k H locs ls' hP hS (hL.put1 (v := .int x) rfl (zput1_ok hi (Or.inr ⟨_, rfl, hc⟩)) h'))
theorem zw_astore10 {M : zM} {n pc : Nat} {X : zCx} {st : List Value} {σ : zSt} {a0 a1 a2 a3 a4 a5 a6 a7 a8 a9 a10 : Option Value} {t : List (Option Value)} {x : Nat} (hB : zB M n X) (hd : decode M.2.1 pc = .ok (.astore 10, 2)) (hc : zc1 a9 = true) (k : zW X (pc + 2) (a0 :: a1 :: a2 :: a3 :: a4 :: a5 :: a6 :: a7 :: a8 :: a9 :: some (.ref x) :: t) st σ) : zW X pc (a0 :: a1 :: a2 :: a3 :: a4 :: a5 :: a6 :: a7 :: a8 :: a9 :: a10 :: t) (.ref x :: st) σ := by
  intro H locs ls hP hS hL
  have hi : 10 < (a0 :: a1 :: a2 :: a3 :: a4 :: a5 :: a6 :: a7 :: a8 :: a9 :: a10 :: t).length := by simp
  exact lv_astore hB.1 hB.2.1 hd hL.has (by rw [← hL.1, ← hL.2.1]; exact hi) rfl (fun ls' h' => k H locs ls' hP hS (hL.put1 (v := .ref x) rfl (zput1_ok hi (Or.inr ⟨_, rfl, hc⟩)) h'))
theorem zw_lstore10 {M : zM} {n pc : Nat} {X : zCx} {st : List Value} {σ : zSt} {a0 a1 a2 a3 a4 a5 a6 a7 a8 a9 a10 a11 : Option Value} {t : List (Option Value)} {x : Int64} (hB : zB M n X) (hd : decode M.2.1 pc = .ok (.lstore 10, 2)) (hc : zc1 a9 = true) (k : zW X (pc + 2) (a0 :: a1 :: a2 :: a3 :: a4 :: a5 :: a6 :: a7 :: a8 :: a9 :: some (.long x) :: none :: t) st σ) : zW X pc (a0 :: a1 :: a2 :: a3 :: a4 :: a5 :: a6 :: a7 :: a8 :: a9 :: a10 :: a11 :: t) (.long x :: st) σ := by
  intro H locs ls hP hS hL
  have hi : 10 + 1 < (a0 :: a1 :: a2 :: a3 :: a4 :: a5 :: a6 :: a7 :: a8 :: a9 :: a10 :: a11 :: t).length := by simp
  exact lv_lstore hB.1 hB.2.1 hd hL.has (by rw [← hL.1, ← hL.2.1]; exact hi) rfl (fun ls' h' => k H locs ls' hP hS (hL.put2 (v := .long x) rfl (zput2_ok hi (Or.inr ⟨_, rfl, hc⟩)) h'))
theorem zw_iinc10 {M : zM} {n pc : Nat} {X : zCx} {st : List Value} {σ : zSt} {a0 a1 a2 a3 a4 a5 a6 a7 a8 a9 : Option Value} {t : List (Option Value)} {v : Int} {x y : Int32} (hB : zB M n X) (hd : decode M.2.1 pc = .ok (.iinc 10 v, 3)) (hv : x + Int32.ofInt v = y) (hc : zc1 a9 = true) (k : zW X (pc + 3) (a0 :: a1 :: a2 :: a3 :: a4 :: a5 :: a6 :: a7 :: a8 :: a9 :: some (.int y) :: t) st σ) : zW X pc (a0 :: a1 :: a2 :: a3 :: a4 :: a5 :: a6 :: a7 :: a8 :: a9 :: some (.int x) :: t) st σ := by
  intro H locs ls hP hS hL
  have hi : 10 < (a0 :: a1 :: a2 :: a3 :: a4 :: a5 :: a6 :: a7 :: a8 :: a9 :: some (.int x) :: t).length := by simp
  obtain ⟨q, hq⟩ := List.getElem?_of_mem (zal_in (X := X) (lv := a0 :: a1 :: a2 :: a3 :: a4 :: a5 :: a6 :: a7 :: a8 :: a9 :: some (.int x) :: t) (j := 10) (w := .int x) |>.mpr ⟨.int x, rfl, rfl⟩)
  exact lv_iinc hB.1 hB.2.1 hd hL.has hq hv (by rw [← hL.1, ← hL.2.1]; exact hi) rfl (fun ls' h' => k H locs ls' hP hS (hL.put1 (v := .int y) rfl (zput1_ok hi (Or.inr ⟨_, rfl, hc⟩)) h'))
theorem zw_istore11 {M : zM} {n pc : Nat} {X : zCx} {st : List Value} {σ : zSt} {a0 a1 a2 a3 a4 a5 a6 a7 a8 a9 a10 a11 : Option Value} {t : List (Option Value)} {x : Int32} (hB : zB M n X) (hd : decode M.2.1 pc = .ok (.istore 11, 2)) (hc : zc1 a10 = true) (k : zW X (pc + 2) (a0 :: a1 :: a2 :: a3 :: a4 :: a5 :: a6 :: a7 :: a8 :: a9 :: a10 :: some (.int x) :: t) st σ) : zW X pc (a0 :: a1 :: a2 :: a3 :: a4 :: a5 :: a6 :: a7 :: a8 :: a9 :: a10 :: a11 :: t) (.int x :: st) σ := by
  intro H locs ls hP hS hL
  have hi : 11 < (a0 :: a1 :: a2 :: a3 :: a4 :: a5 :: a6 :: a7 :: a8 :: a9 :: a10 :: a11 :: t).length := by simp
  exact lv_istore hB.1 hB.2.1 hd hL.has (by rw [← hL.1, ← hL.2.1]; exact hi) rfl (fun ls' h' => k H locs ls' hP hS (hL.put1 (v := .int x) rfl (zput1_ok hi (Or.inr ⟨_, rfl, hc⟩)) h'))
theorem zw_astore11 {M : zM} {n pc : Nat} {X : zCx} {st : List Value} {σ : zSt} {a0 a1 a2 a3 a4 a5 a6 a7 a8 a9 a10 a11 : Option Value} {t : List (Option Value)} {x : Nat} (hB : zB M n X) (hd : decode M.2.1 pc = .ok (.astore 11, 2)) (hc : zc1 a10 = true) (k : zW X (pc + 2) (a0 :: a1 :: a2 :: a3 :: a4 :: a5 :: a6 :: a7 :: a8 :: a9 :: a10 :: some (.ref x) :: t) st σ) : zW X pc (a0 :: a1 :: a2 :: a3 :: a4 :: a5 :: a6 :: a7 :: a8 :: a9 :: a10 :: a11 :: t) (.ref x :: st) σ := by
  intro H locs ls hP hS hL
  have hi : 11 < (a0 :: a1 :: a2 :: a3 :: a4 :: a5 :: a6 :: a7 :: a8 :: a9 :: a10 :: a11 :: t).length := by simp
  exact lv_astore hB.1 hB.2.1 hd hL.has (by rw [← hL.1, ← hL.2.1]; exact hi) rfl (fun ls' h' => k H locs ls' hP hS (hL.put1 (v := .ref x) rfl (zput1_ok hi (Or.inr ⟨_, rfl, hc⟩)) h'))
theorem zw_lstore11 {M : zM} {n pc : Nat} {X : zCx} {st : List Value} {σ : zSt} {a0 a1 a2 a3 a4 a5 a6 a7 a8 a9 a10 a11 a12 : Option Value} {t : List (Option Value)} {x : Int64} (hB : zB M n X) (hd : decode M.2.1 pc = .ok (.lstore 11, 2)) (hc : zc1 a10 = true) (k : zW X (pc + 2) (a0 :: a1 :: a2 :: a3 :: a4 :: a5 :: a6 :: a7 :: a8 :: a9 :: a10 :: some (.long x) :: none :: t) st σ) : zW X pc (a0 :: a1 :: a2 :: a3 :: a4 :: a5 :: a6 :: a7 :: a8 :: a9 :: a10 :: a11 :: a12 :: t) (.long x :: st) σ := by
  intro H locs ls hP hS hL
  have hi : 11 + 1 < (a0 :: a1 :: a2 :: a3 :: a4 :: a5 :: a6 :: a7 :: a8 :: a9 :: a10 :: a11 :: a12 :: t).length := by simp
  exact lv_lstore hB.1 hB.2.1 hd hL.has (by rw [← hL.1, ← hL.2.1]; exact hi) rfl (fun ls' h' => k H locs ls' hP hS (hL.put2 (v := .long x) rfl (zput2_ok hi (Or.inr ⟨_, rfl, hc⟩)) h'))
theorem zw_iinc11 {M : zM} {n pc : Nat} {X : zCx} {st : List Value} {σ : zSt} {a0 a1 a2 a3 a4 a5 a6 a7 a8 a9 a10 : Option Value} {t : List (Option Value)} {v : Int} {x y : Int32} (hB : zB M n X) (hd : decode M.2.1 pc = .ok (.iinc 11 v, 3)) (hv : x + Int32.ofInt v = y) (hc : zc1 a10 = true) (k : zW X (pc + 3) (a0 :: a1 :: a2 :: a3 :: a4 :: a5 :: a6 :: a7 :: a8 :: a9 :: a10 :: some (.int y) :: t) st σ) : zW X pc (a0 :: a1 :: a2 :: a3 :: a4 :: a5 :: a6 :: a7 :: a8 :: a9 :: a10 :: some (.int x) :: t) st σ := by
  intro H locs ls hP hS hL
  have hi : 11 < (a0 :: a1 :: a2 :: a3 :: a4 :: a5 :: a6 :: a7 :: a8 :: a9 :: a10 :: some (.int x) :: t).length := by simp
  obtain ⟨q, hq⟩ := List.getElem?_of_mem (zal_in (X := X) (lv := a0 :: a1 :: a2 :: a3 :: a4 :: a5 :: a6 :: a7 :: a8 :: a9 :: a10 :: some (.int x) :: t) (j := 11) (w := .int x) |>.mpr ⟨.int x, rfl, rfl⟩)
  exact lv_iinc hB.1 hB.2.1 hd hL.has hq hv (by rw [← hL.1, ← hL.2.1]; exact hi) rfl (fun ls' h' => k H locs ls' hP hS (hL.put1 (v := .int y) rfl (zput1_ok hi (Or.inr ⟨_, rfl, hc⟩)) h'))
theorem zw_istore12 {M : zM} {n pc : Nat} {X : zCx} {st : List Value} {σ : zSt} {a0 a1 a2 a3 a4 a5 a6 a7 a8 a9 a10 a11 a12 : Option Value} {t : List (Option Value)} {x : Int32} (hB : zB M n X) (hd : decode M.2.1 pc = .ok (.istore 12, 2)) (hc : zc1 a11 = true) (k : zW X (pc + 2) (a0 :: a1 :: a2 :: a3 :: a4 :: a5 :: a6 :: a7 :: a8 :: a9 :: a10 :: a11 :: some (.int x) :: t) st σ) : zW X pc (a0 :: a1 :: a2 :: a3 :: a4 :: a5 :: a6 :: a7 :: a8 :: a9 :: a10 :: a11 :: a12 :: t) (.int x :: st) σ := by
  intro H locs ls hP hS hL
  have hi : 12 < (a0 :: a1 :: a2 :: a3 :: a4 :: a5 :: a6 :: a7 :: a8 :: a9 :: a10 :: a11 :: a12 :: t).length := by simp
  exact lv_istore hB.1 hB.2.1 hd hL.has (by rw [← hL.1, ← hL.2.1]; exact hi) rfl (fun ls' h' => k H locs ls' hP hS (hL.put1 (v := .int x) rfl (zput1_ok hi (Or.inr ⟨_, rfl, hc⟩)) h'))
theorem zw_astore12 {M : zM} {n pc : Nat} {X : zCx} {st : List Value} {σ : zSt} {a0 a1 a2 a3 a4 a5 a6 a7 a8 a9 a10 a11 a12 : Option Value} {t : List (Option Value)} {x : Nat} (hB : zB M n X) (hd : decode M.2.1 pc = .ok (.astore 12, 2)) (hc : zc1 a11 = true) (k : zW X (pc + 2) (a0 :: a1 :: a2 :: a3 :: a4 :: a5 :: a6 :: a7 :: a8 :: a9 :: a10 :: a11 :: some (.ref x) :: t) st σ) : zW X pc (a0 :: a1 :: a2 :: a3 :: a4 :: a5 :: a6 :: a7 :: a8 :: a9 :: a10 :: a11 :: a12 :: t) (.ref x :: st) σ := by
  intro H locs ls hP hS hL
  have hi : 12 < (a0 :: a1 :: a2 :: a3 :: a4 :: a5 :: a6 :: a7 :: a8 :: a9 :: a10 :: a11 :: a12 :: t).length := by simp
  exact lv_astore hB.1 hB.2.1 hd hL.has (by rw [← hL.1, ← hL.2.1]; exact hi) rfl (fun ls' h' => k H locs ls' hP hS (hL.put1 (v := .ref x) rfl (zput1_ok hi (Or.inr ⟨_, rfl, hc⟩)) h'))
theorem zw_lstore12 {M : zM} {n pc : Nat} {X : zCx} {st : List Value} {σ : zSt} {a0 a1 a2 a3 a4 a5 a6 a7 a8 a9 a10 a11 a12 a13 : Option Value} {t : List (Option Value)} {x : Int64} (hB : zB M n X) (hd : decode M.2.1 pc = .ok (.lstore 12, 2)) (hc : zc1 a11 = true) (k : zW X (pc + 2) (a0 :: a1 :: a2 :: a3 :: a4 :: a5 :: a6 :: a7 :: a8 :: a9 :: a10 :: a11 :: some (.long x) :: none :: t) st σ) : zW X pc (a0 :: a1 :: a2 :: a3 :: a4 :: a5 :: a6 :: a7 :: a8 :: a9 :: a10 :: a11 :: a12 :: a13 :: t) (.long x :: st) σ := by
  intro H locs ls hP hS hL
  have hi : 12 + 1 < (a0 :: a1 :: a2 :: a3 :: a4 :: a5 :: a6 :: a7 :: a8 :: a9 :: a10 :: a11 :: a12 :: a13 :: t).length := by simp
  exact lv_lstore hB.1 hB.2.1 hd hL.has (by rw [← hL.1, ← hL.2.1]; exact hi) rfl (fun ls' h' => k H locs ls' hP hS (hL.put2 (v := .long x) rfl (zput2_ok hi (Or.inr ⟨_, rfl, hc⟩)) h'))
theorem zw_iinc12 {M : zM} {n pc : Nat} {X : zCx} {st : List Value} {σ : zSt} {a0 a1 a2 a3 a4 a5 a6 a7 a8 a9 a10 a11 : Option Value} {t : List (Option Value)} {v : Int} {x y : Int32} (hB : zB M n X) (hd : decode M.2.1 pc = .ok (.iinc 12 v, 3)) (hv : x + Int32.ofInt v = y) (hc : zc1 a11 = true) (k : zW X (pc + 3) (a0 :: a1 :: a2 :: a3 :: a4 :: a5 :: a6 :: a7 :: a8 :: a9 :: a10 :: a11 :: some (.int y) :: t) st σ) : zW X pc (a0 :: a1 :: a2 :: a3 :: a4 :: a5 :: a6 :: a7 :: a8 :: a9 :: a10 :: a11 :: some (.int x) :: t) st σ := by
  intro H locs ls hP hS hL
  have hi : 12 < (a0 :: a1 :: a2 :: a3 :: a4 :: a5 :: a6 :: a7 :: a8 :: a9 :: a10 :: a11 :: some (.int x) :: t).length := by simp
  obtain ⟨q, hq⟩ := List.getElem?_of_mem (zal_in (X := X) (lv := a0 :: a1 :: a2 :: a3 :: a4 :: a5 :: a6 :: a7 :: a8 :: a9 :: a10 :: a11 :: some (.int x) :: t) (j := 12) (w := .int x) |>.mpr ⟨.int x, rfl, rfl⟩)
  exact lv_iinc hB.1 hB.2.1 hd hL.has hq hv (by rw [← hL.1, ← hL.2.1]; exact hi) rfl (fun ls' h' => k H locs ls' hP hS (hL.put1 (v := .int y) rfl (zput1_ok hi (Or.inr ⟨_, rfl, hc⟩)) h'))
theorem zw_istore13 {M : zM} {n pc : Nat} {X : zCx} {st : List Value} {σ : zSt} {a0 a1 a2 a3 a4 a5 a6 a7 a8 a9 a10 a11 a12 a13 : Option Value} {t : List (Option Value)} {x : Int32} (hB : zB M n X) (hd : decode M.2.1 pc = .ok (.istore 13, 2)) (hc : zc1 a12 = true) (k : zW X (pc + 2) (a0 :: a1 :: a2 :: a3 :: a4 :: a5 :: a6 :: a7 :: a8 :: a9 :: a10 :: a11 :: a12 :: some (.int x) :: t) st σ) : zW X pc (a0 :: a1 :: a2 :: a3 :: a4 :: a5 :: a6 :: a7 :: a8 :: a9 :: a10 :: a11 :: a12 :: a13 :: t) (.int x :: st) σ := by
  intro H locs ls hP hS hL
  have hi : 13 < (a0 :: a1 :: a2 :: a3 :: a4 :: a5 :: a6 :: a7 :: a8 :: a9 :: a10 :: a11 :: a12 :: a13 :: t).length := by simp
  exact lv_istore hB.1 hB.2.1 hd hL.has (by rw [← hL.1, ← hL.2.1]; exact hi) rfl (fun ls' h' => k H locs ls' hP hS (hL.put1 (v := .int x) rfl (zput1_ok hi (Or.inr ⟨_, rfl, hc⟩)) h'))
theorem zw_astore13 {M : zM} {n pc : Nat} {X : zCx} {st : List Value} {σ : zSt} {a0 a1 a2 a3 a4 a5 a6 a7 a8 a9 a10 a11 a12 a13 : Option Value} {t : List (Option Value)} {x : Nat} (hB : zB M n X) (hd : decode M.2.1 pc = .ok (.astore 13, 2)) (hc : zc1 a12 = true) (k : zW X (pc + 2) (a0 :: a1 :: a2 :: a3 :: a4 :: a5 :: a6 :: a7 :: a8 :: a9 :: a10 :: a11 :: a12 :: some (.ref x) :: t) st σ) : zW X pc (a0 :: a1 :: a2 :: a3 :: a4 :: a5 :: a6 :: a7 :: a8 :: a9 :: a10 :: a11 :: a12 :: a13 :: t) (.ref x :: st) σ := by
  intro H locs ls hP hS hL
  have hi : 13 < (a0 :: a1 :: a2 :: a3 :: a4 :: a5 :: a6 :: a7 :: a8 :: a9 :: a10 :: a11 :: a12 :: a13 :: t).length := by simp
  exact lv_astore hB.1 hB.2.1 hd hL.has (by rw [← hL.1, ← hL.2.1]; exact hi) rfl (fun ls' h' => k H locs ls' hP hS (hL.put1 (v := .ref x) rfl (zput1_ok hi (Or.inr ⟨_, rfl, hc⟩)) h'))
theorem zw_lstore13 {M : zM} {n pc : Nat} {X : zCx} {st : List Value} {σ : zSt} {a0 a1 a2 a3 a4 a5 a6 a7 a8 a9 a10 a11 a12 a13 a14 : Option Value} {t : List (Option Value)} {x : Int64} (hB : zB M n X) (hd : decode M.2.1 pc = .ok (.lstore 13, 2)) (hc : zc1 a12 = true) (k : zW X (pc + 2) (a0 :: a1 :: a2 :: a3 :: a4 :: a5 :: a6 :: a7 :: a8 :: a9 :: a10 :: a11 :: a12 :: some (.long x) :: none :: t) st σ) : zW X pc (a0 :: a1 :: a2 :: a3 :: a4 :: a5 :: a6 :: a7 :: a8 :: a9 :: a10 :: a11 :: a12 :: a13 :: a14 :: t) (.long x :: st) σ := by
  intro H locs ls hP hS hL
  have hi : 13 + 1 < (a0 :: a1 :: a2 :: a3 :: a4 :: a5 :: a6 :: a7 :: a8 :: a9 :: a10 :: a11 :: a12 :: a13 :: a14 :: t).length := by simp
  exact lv_lstore hB.1 hB.2.1 hd hL.has (by rw [← hL.1, ← hL.2.1]; exact hi) rfl (fun ls' h' => k H locs ls' hP hS (hL.put2 (v := .long x) rfl (zput2_ok hi (Or.inr ⟨_, rfl, hc⟩)) h'))
theorem zw_iinc13 {M : zM} {n pc : Nat} {X : zCx} {st : List Value} {σ : zSt} {a0 a1 a2 a3 a4 a5 a6 a7 a8 a9 a10 a11 a12 : Option Value} {t : List (Option Value)} {v : Int} {x y : Int32} (hB : zB M n X) (hd : decode M.2.1 pc = .ok (.iinc 13 v, 3)) (hv : x + Int32.ofInt v = y) (hc : zc1 a12 = true) (k : zW X (pc + 3) (a0 :: a1 :: a2 :: a3 :: a4 :: a5 :: a6 :: a7 :: a8 :: a9 :: a10 :: a11 :: a12 :: some (.int y) :: t) st σ) : zW X pc (a0 :: a1 :: a2 :: a3 :: a4 :: a5 :: a6 :: a7 :: a8 :: a9 :: a10 :: a11 :: a12 :: some (.int x) :: t) st σ := by
  intro H locs ls hP hS hL
  have hi : 13 < (a0 :: a1 :: a2 :: a3 :: a4 :: a5 :: a6 :: a7 :: a8 :: a9 :: a10 :: a11 :: a12 :: some (.int x) :: t).length := by simp
  obtain ⟨q, hq⟩ := List.getElem?_of_mem (zal_in (X := X) (lv := a0 :: a1 :: a2 :: a3 :: a4 :: a5 :: a6 :: a7 :: a8 :: a9 :: a10 :: a11 :: a12 :: some (.int x) :: t) (j := 13) (w := .int x) |>.mpr ⟨.int x, rfl, rfl⟩)
  exact lv_iinc hB.1 hB.2.1 hd hL.has hq hv (by rw [← hL.1, ← hL.2.1]; exact hi) rfl (fun ls' h' => k H locs ls' hP hS (hL.put1 (v := .int y) rfl (zput1_ok hi (Or.inr ⟨_, rfl, hc⟩)) h'))
theorem zw_istore14 {M : zM} {n pc : Nat} {X : zCx} {st : List Value} {σ : zSt} {a0 a1 a2 a3 a4 a5 a6 a7 a8 a9 a10 a11 a12 a13 a14 : Option Value} {t : List (Option Value)} {x : Int32} (hB : zB M n X) (hd : decode M.2.1 pc = .ok (.istore 14, 2)) (hc : zc1 a13 = true) (k : zW X (pc + 2) (a0 :: a1 :: a2 :: a3 :: a4 :: a5 :: a6 :: a7 :: a8 :: a9 :: a10 :: a11 :: a12 :: a13 :: some (.int x) :: t) st σ) : zW X pc (a0 :: a1 :: a2 :: a3 :: a4 :: a5 :: a6 :: a7 :: a8 :: a9 :: a10 :: a11 :: a12 :: a13 :: a14 :: t) (.int x :: st) σ := by
  intro H locs ls hP hS hL
  have hi : 14 < (a0 :: a1 :: a2 :: a3 :: a4 :: a5 :: a6 :: a7 :: a8 :: a9 :: a10 :: a11 :: a12 :: a13 :: a14 :: t).length := by simp
  exact lv_istore hB.1 hB.2.1 hd hL.has (by rw [← hL.1, ← hL.2.1]; exact hi) rfl (fun ls' h' => k H locs ls' hP hS (hL.put1 (v := .int x) rfl (zput1_ok hi (Or.inr ⟨_, rfl, hc⟩)) h'))
theorem zw_astore14 {M : zM} {n pc : Nat} {X : zCx} {st : List Value} {σ : zSt} {a0 a1 a2 a3 a4 a5 a6 a7 a8 a9 a10 a11 a12 a13 a14 : Option Value} {t : List (Option Value)} {x : Nat} (hB : zB M n X) (hd : decode M.2.1 pc = .ok (.astore 14, 2)) (hc : zc1 a13 = true) (k : zW X (pc + 2) (a0 :: a1 :: a2 :: a3 :: a4 :: a5 :: a6 :: a7 :: a8 :: a9 :: a10 :: a11 :: a12 :: a13 :: some (.ref x) :: t) st σ) : zW X pc (a0 :: a1 :: a2 :: a3 :: a4 :: a5 :: a6 :: a7 :: a8 :: a9 :: a10 :: a11 :: a12 :: a13 :: a14 :: t) (.ref x :: st) σ := by
  intro H locs ls hP hS hL
  have hi : 14 < (a0 :: a1 :: a2 :: a3 :: a4 :: a5 :: a6 :: a7 :: a8 :: a9 :: a10 :: a11 :: a12 :: a13 :: a14 :: t).length := by simp
  exact lv_astore hB.1 hB.2.1 hd hL.has (by rw [← hL.1, ← hL.2.1]; exact hi) rfl (fun ls' h' => k H locs ls' hP hS (hL.put1 (v := .ref x) rfl (zput1_ok hi (Or.inr ⟨_, rfl, hc⟩)) h'))
theorem zw_lstore14 {M : zM} {n pc : Nat} {X : zCx} {st : List Value} {σ : zSt} {a0 a1 a2 a3 a4 a5 a6 a7 a8 a9 a10 a11 a12 a13 a14 a15 : Option Value} {t : List (Option Value)} {x : Int64} (hB : zB M n X) (hd : decode M.2.1 pc = .ok (.lstore 14, 2)) (hc : zc1 a13 = true) (k : zW X (pc + 2) (a0 :: a1 :: a2 :: a3 :: a4 :: a5 :: a6 :: a7 :: a8 :: a9 :: a10 :: a11 :: a12 :: a13 :: some (.long x) :: none :: t) st σ) : zW X pc (a0 :: a1 :: a2 :: a3 :: a4 :: a5 :: a6 :: a7 :: a8 :: a9 :: a10 :: a11 :: a12 :: a13 :: a14 :: a15 :: t) (.long x :: st) σ := by
  intro H locs ls hP hS hL
  have hi : 14 + 1 < (a0 :: a1 :: a2 :: a3 :: a4 :: a5 :: a6 :: a7 :: a8 :: a9 :: a10 :: a11 :: a12 :: a13 :: a14 :: a15 :: t).length := by simp
  exact lv_lstore hB.1 hB.2.1 hd hL.has (by rw [← hL.1, ← hL.2.1]; exact hi) rfl (fun ls' h' => k H locs ls' hP hS (hL.put2 (v := .long x) rfl (zput2_ok hi (Or.inr ⟨_, rfl, hc⟩)) h'))
theorem zw_iinc14 {M : zM} {n pc : Nat} {X : zCx} {st : List Value} {σ : zSt} {a0 a1 a2 a3 a4 a5 a6 a7 a8 a9 a10 a11 a12 a13 : Option Value} {t : List (Option Value)} {v : Int} {x y : Int32} (hB : zB M n X) (hd : decode M.2.1 pc = .ok (.iinc 14 v, 3)) (hv : x + Int32.ofInt v = y) (hc : zc1 a13 = true) (k : zW X (pc + 3) (a0 :: a1 :: a2 :: a3 :: a4 :: a5 :: a6 :: a7 :: a8 :: a9 :: a10 :: a11 :: a12 :: a13 :: some (.int y) :: t) st σ) : zW X pc (a0 :: a1 :: a2 :: a3 :: a4 :: a5 :: a6 :: a7 :: a8 :: a9 :: a10 :: a11 :: a12 :: a13 :: some (.int x) :: t) st σ := by
  intro H locs ls hP hS hL
  have hi : 14 < (a0 :: a1 :: a2 :: a3 :: a4 :: a5 :: a6 :: a7 :: a8 :: a9 :: a10 :: a11 :: a12 :: a13 :: some (.int x) :: t).length := by simp
  obtain ⟨q, hq⟩ := List.getElem?_of_mem (zal_in (X := X) (lv := a0 :: a1 :: a2 :: a3 :: a4 :: a5 :: a6 :: a7 :: a8 :: a9 :: a10 :: a11 :: a12 :: a13 :: some (.int x) :: t) (j := 14) (w := .int x) |>.mpr ⟨.int x, rfl, rfl⟩)
  exact lv_iinc hB.1 hB.2.1 hd hL.has hq hv (by rw [← hL.1, ← hL.2.1]; exact hi) rfl (fun ls' h' => k H locs ls' hP hS (hL.put1 (v := .int y) rfl (zput1_ok hi (Or.inr ⟨_, rfl, hc⟩)) h'))
theorem zw_istore15 {M : zM} {n pc : Nat} {X : zCx} {st : List Value} {σ : zSt} {a0 a1 a2 a3 a4 a5 a6 a7 a8 a9 a10 a11 a12 a13 a14 a15 : Option Value} {t : List (Option Value)} {x : Int32} (hB : zB M n X) (hd : decode M.2.1 pc = .ok (.istore 15, 2)) (hc : zc1 a14 = true) (k : zW X (pc + 2) (a0 :: a1 :: a2 :: a3 :: a4 :: a5 :: a6 :: a7 :: a8 :: a9 :: a10 :: a11 :: a12 :: a13 :: a14 :: some (.int x) :: t) st σ) : zW X pc (a0 :: a1 :: a2 :: a3 :: a4 :: a5 :: a6 :: a7 :: a8 :: a9 :: a10 :: a11 :: a12 :: a13 :: a14 :: a15 :: t) (.int x :: st) σ := by
  intro H locs ls hP hS hL
  have hi : 15 < (a0 :: a1 :: a2 :: a3 :: a4 :: a5 :: a6 :: a7 :: a8 :: a9 :: a10 :: a11 :: a12 :: a13 :: a14 :: a15 :: t).length := by simp
  exact lv_istore hB.1 hB.2.1 hd hL.has (by rw [← hL.1, ← hL.2.1]; exact hi) rfl (fun ls' h' => k H locs ls' hP hS (hL.put1 (v := .int x) rfl (zput1_ok hi (Or.inr ⟨_, rfl, hc⟩)) h'))
theorem zw_astore15 {M : zM} {n pc : Nat} {X : zCx} {st : List Value} {σ : zSt} {a0 a1 a2 a3 a4 a5 a6 a7 a8 a9 a10 a11 a12 a13 a14 a15 : Option Value} {t : List (Option Value)} {x : Nat} (hB : zB M n X) (hd : decode M.2.1 pc = .ok (.astore 15, 2)) (hc : zc1 a14 = true) (k : zW X (pc + 2) (a0 :: a1 :: a2 :: a3 :: a4 :: a5 :: a6 :: a7 :: a8 :: a9 :: a10 :: a11 :: a12 :: a13 :: a14 :: some (.ref x) :: t) st σ) : zW X pc (a0 :: a1 :: a2 :: a3 :: a4 :: a5 :: a6 :: a7 :: a8 :: a9 :: a10 :: a11 :: a12 :: a13 :: a14 :: a15 :: t) (.ref x :: st) σ := by
  intro H locs ls hP hS hL
  have hi : 15 < (a0 :: a1 :: a2 :: a3 :: a4 :: a5 :: a6 :: a7 :: a8 :: a9 :: a10 :: a11 :: a12 :: a13 :: a14 :: a15 :: t).length := by simp
  exact lv_astore hB.1 hB.2.1 hd hL.has (by rw [← hL.1, ← hL.2.1]; exact hi) rfl (fun ls' h' => k H locs ls' hP hS (hL.put1 (v := .ref x) rfl (zput1_ok hi (Or.inr ⟨_, rfl, hc⟩)) h'))
theorem zw_iinc15 {M : zM} {n pc : Nat} {X : zCx} {st : List Value} {σ : zSt} {a0 a1 a2 a3 a4 a5 a6 a7 a8 a9 a10 a11 a12 a13 a14 : Option Value} {t : List (Option Value)} {v : Int} {x y : Int32} (hB : zB M n X) (hd : decode M.2.1 pc = .ok (.iinc 15 v, 3)) (hv : x + Int32.ofInt v = y) (hc : zc1 a14 = true) (k : zW X (pc + 3) (a0 :: a1 :: a2 :: a3 :: a4 :: a5 :: a6 :: a7 :: a8 :: a9 :: a10 :: a11 :: a12 :: a13 :: a14 :: some (.int y) :: t) st σ) : zW X pc (a0 :: a1 :: a2 :: a3 :: a4 :: a5 :: a6 :: a7 :: a8 :: a9 :: a10 :: a11 :: a12 :: a13 :: a14 :: some (.int x) :: t) st σ := by
  intro H locs ls hP hS hL
  have hi : 15 < (a0 :: a1 :: a2 :: a3 :: a4 :: a5 :: a6 :: a7 :: a8 :: a9 :: a10 :: a11 :: a12 :: a13 :: a14 :: some (.int x) :: t).length := by simp
  obtain ⟨q, hq⟩ := List.getElem?_of_mem (zal_in (X := X) (lv := a0 :: a1 :: a2 :: a3 :: a4 :: a5 :: a6 :: a7 :: a8 :: a9 :: a10 :: a11 :: a12 :: a13 :: a14 :: some (.int x) :: t) (j := 15) (w := .int x) |>.mpr ⟨.int x, rfl, rfl⟩)
  exact lv_iinc hB.1 hB.2.1 hd hL.has hq hv (by rw [← hL.1, ← hL.2.1]; exact hi) rfl (fun ls' h' => k H locs ls' hP hS (hL.put1 (v := .int y) rfl (zput1_ok hi (Or.inr ⟨_, rfl, hc⟩)) h'))
