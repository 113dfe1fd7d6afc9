/-! RULES: returns, fields, arrays, calls -/
section zRT
variable {M : zM} {n pc : Nat} {X : zCx} {lv : List (Option Value)} {σ : zSt} {Q : Option Value → zSt → Prop}
theorem zw_iret {v : Int32} (hB : zB M n X) (hR : zRt X Q) (hd : decode M.2.1 pc = .ok (.ireturn, 1)) (hr : M.2.2.2 = some .int) (hq : Q (some (.int v)) σ) : zW X pc lv [.int v] σ := by
  intro H locs ls hP hS hL
  rw [hR.1]
  exact W.iret hB.1 hB.2.1 (hB.2.2.1.trans hr) (fun t ht _ => ⟨⟨some (.int v), σ, rfl, hq, by rw [ht]; exact hP⟩, hS.F ht⟩) hS.2.2 hd hR.2
theorem zw_zret {v : Int32} {ty : FieldType} (hB : zB M n X) (hR : zRt X Q) (hd : decode M.2.1 pc = .ok (.ireturn, 1)) (hr : M.2.2.2 = some ty) (hn : narrow ty (.int v) = .int v) (hq : Q (some (.int v)) σ) : zW X pc lv [.int v] σ := by
  intro H locs ls hP hS hL
  rw [hR.1]
  exact W.zret hB.1 hB.2.1 (hB.2.2.1.trans hr) hn (fun t ht _ => ⟨⟨some (.int v), σ, rfl, hq, by rw [ht]; exact hP⟩, hS.F ht⟩) hS.2.2 hd hR.2
theorem zw_lret {v : Int64} (hB : zB M n X) (hR : zRt X Q) (hd : decode M.2.1 pc = .ok (.lreturn, 1)) (hr : M.2.2.2 = some .long) (hq : Q (some (.long v)) σ) : zW X pc lv [.long v] σ := by
  intro H locs ls hP hS hL
  rw [hR.1]
  exact W.lret hB.1 hB.2.1 (hB.2.2.1.trans hr) (fun t ht _ => ⟨⟨some (.long v), σ, rfl, hq, by rw [ht]; exact hP⟩, hS.F ht⟩) hS.2.2 hd hR.2
theorem zw_vret (hB : zB M n X) (hR : zRt X Q) (hd : decode M.2.1 pc = .ok (.return_, 1)) (hr : M.2.2.2 = none) (hq : Q none σ) : zW X pc lv [] σ := by
  intro H locs ls hP hS hL
  rw [hR.1]
  exact W.vret hB.1 hB.2.1 (hB.2.2.1.trans hr) (fun t ht _ => ⟨⟨none, σ, rfl, hq, by rw [ht]; exact hP⟩, hS.F ht⟩) hS.2.2 hd hR.2
theorem zw_aret {j : Nat} {nm : String} (hB : zB M n X) (hR : zRt X Q) (hd : decode M.2.1 pc = .ok (.areturn, 1)) (hr : M.2.2.2 = some (.object nm)) (hq : Q (some (.ref j)) σ) : zW X pc lv [.ref j] σ := by
  intro H locs ls hP hS hL
  rw [hR.1]
  exact W.aret hB.1 hB.2.1 (hB.2.2.1.trans hr) (Or.inl ⟨_, rfl⟩) (Or.inr ⟨_, rfl⟩) (fun t ht _ => ⟨⟨some (.ref j), σ, rfl, hq, by rw [ht]; exact hP⟩, hS.F ht⟩) hS.2.2 hd hR.2
end zRT
/-- field idx of class own's pool: slot k of class number ci -/
def zF (own : String) (idx ci k : Nat) : Prop := ∃ (C : String) (T : u_T) (N : Nat), zcl[ci]? = some (C, T, N) ∧ k < N ∧ (∀ w ∈ u_ws C T N, w ∈ zts) ∧ Cond.fieldLink own idx C (T k).2.1 (T k).2.2.1 ∈ zts ∧ (T k).1 = C
/-- and it may be written: an int (or boolean) that isn't final -/
def zFw (own : String) (idx ci k : Nat) (ty : FieldType) : Prop := ∃ (C : String) (T : u_T) (N : Nat) (ty0 : Nat → FieldType), zcl[ci]? = some (C, T, N) ∧ k < N ∧ (∀ w ∈ u_ws C T N, w ∈ zts) ∧ Cond.fieldLink own idx C (T k).2.1 (T k).2.2.1 ∈ zts ∧ (T k).1 = C ∧
  (∀ k, k < N → parseFieldDescriptor (T k).2.2.1 = some (ty0 k)) ∧ (∀ a, a < N → ∀ b, b < N → a ≠ b → (T a).2.1 ≠ (T b).2.1) ∧ (T k).2.2.2 = false ∧ parseFieldDescriptor (T k).2.2.1 = some ty
section zFD
variable {M : zM} {n pc : Nat} {X : zCx} {lv : List (Option Value)} {st : List Value} {σ : zSt}
theorem zw_getfI {idx ci k i : Nat} {fs : List (Option Nat)} (hB : zB M n X) (hd : decode M.2.1 pc = .ok (.getfield idx, 3)) (hf : zF M.1.cls idx ci k) (hl : zLY[i]? = some (.inr (ci, fs))) (hk : fs[k]? = some none) (kk : zW X (pc + 3) lv (.int (σ i k) :: st) σ) : zW X pc lv (.ref i :: st) σ := by
  intro H locs ls hP hS hL
  obtain ⟨C, T, N, h1, h2, h3, h4, h5⟩ := hf
  exact va_get (T := T) (v := .int (σ i k)) hB.1 hB.2.1 hB.2.2.2.2.2.1 h3 hB.2.2.2.2.1 hB.2.2.2.2.2.2.1 hP i (zws_at hl) h1 k h2 (hB.2.2.2.2.2.1 _ h4) (fun x hx => by rw [h5] at hx; exact hx) (by simp [hk, zfld]) hd (kk H locs ls hP hS hL)
theorem zw_getfR {idx ci k i j : Nat} {fs : List (Option Nat)} (hB : zB M n X) (hd : decode M.2.1 pc = .ok (.getfield idx, 3)) (hf : zF M.1.cls idx ci k) (hl : zLY[i]? = some (.inr (ci, fs))) (hk : fs[k]? = some (some j)) (kk : zW X (pc + 3) lv (.ref j :: st) σ) : zW X pc lv (.ref i :: st) σ := by
  intro H locs ls hP hS hL
  obtain ⟨C, T, N, h1, h2, h3, h4, h5⟩ := hf
  exact va_get (T := T) (v := .ref ((zE X).2.2 j)) hB.1 hB.2.1 hB.2.2.2.2.2.1 h3 hB.2.2.2.2.1 hB.2.2.2.2.2.2.1 hP i (zws_at hl) h1 k h2 (hB.2.2.2.2.2.1 _ h4) (fun x hx => by rw [h5] at hx; exact hx) (by simp [hk, zfld]) hd (kk H locs ls hP hS hL)
theorem zws_putf {E : zEn} {i ci k : Nat} {fs : List (Option Nat)} {x : Int32} (hl : zLY[i]? = some (.inr (ci, fs))) (hk : fs[k]? = some none) : (zws E σ).set i (E.2.2 i, .inr (ci, (fs.mapIdx (fun k f => zfld E σ i k f)).set k (.int x))) = zws E (zC σ i (upd (σ i) k x)) := by
  rw [← zws_set (σ := σ) (τ := zC σ i (upd (σ i) k x)) hl (fun a ha => zC_n ha)]
  congr 1
  simp only [zcell, Prod.mk.injEq, true_and, Sum.inr.injEq]
  apply List.ext_getElem?
  intro j
  rw [List.getElem?_set]
  by_cases hj : k = j
  · subst hj
    have hlt : k < fs.length := (List.getElem?_eq_some_iff.mp hk).1
    rw [if_pos rfl, if_pos (by simpa using hlt), List.getElem?_mapIdx, hk]
    simp [zfld, zC, upd]
  · rw [if_neg hj, List.getElem?_mapIdx, List.getElem?_mapIdx]
    cases fs[j]? with
    | none => rfl
    | some f =>
      cases f with
      | none => simp [zfld, zC, upd, Ne.symm hj]
      | some q => simp [zfld]
theorem zw_putfG {idx ci k i : Nat} {fs : List (Option Nat)} {x : Int32} {ty : FieldType} (hB : zB M n X) (hd : decode M.2.1 pc = .ok (.putfield idx, 3)) (hf : zFw M.1.cls idx ci k ty) (hl : zLY[i]? = some (.inr (ci, fs))) (hk : fs[k]? = some none) (hn : narrow ty (.int x) = .int x) (hft : fits ty (.int x) = true) (kk : zW X (pc + 3) lv st (zC σ i (upd (σ i) k x))) : zW X pc lv (.int x :: .ref i :: st) σ := by
  intro H locs ls hP hS hL
  obtain ⟨C, T, N, ty0, h1, h2, h3, h4, h5, h6, h7, h8, h9⟩ := hf
  refine va_put (T := T) (v := .int x) hB.1 hB.2.1 hB.2.2.2.2.2.1 h3 ty0 h6 h7 hB.2.2.2.2.1 hB.2.2.2.2.2.2.1 hP (zD hB.2.2.2.2.2.2.2.1 σ) hS i (zws_at hl) h1 k h2 (hB.2.2.2.2.2.1 _ h4) (fun x hx => by rw [h5] at hx; exact hx) h8 h9 hn hft (by simpa using (List.getElem?_eq_some_iff.mp hk).1) hd (fun H1 locs1 hP1 _ hS1 => ?_)
  rw [zws_putf hl hk] at hP1
  exact kk H1 locs1 ls hP1 hS1 hL
theorem zw_putfI {idx ci k i : Nat} {fs : List (Option Nat)} {x : Int32} (hB : zB M n X) (hd : decode M.2.1 pc = .ok (.putfield idx, 3)) (hf : zFw M.1.cls idx ci k .int) (hl : zLY[i]? = some (.inr (ci, fs))) (hk : fs[k]? = some none) (kk : zW X (pc + 3) lv st (zC σ i (upd (σ i) k x))) : zW X pc lv (.int x :: .ref i :: st) σ := zw_putfG hB hd hf hl hk rfl rfl kk
theorem zw_iald {i N : Nat} {j : Int32} (hB : zB M n X) (hd : decode M.2.1 pc = .ok (.iaload, 1)) (hl : zLY[i]? = some (.inl N)) (hj : vp_in j N) (kk : zW X (pc + 1) lv (.int (σ i j.toNatClampNeg) :: st) σ) : zW X pc lv (.int j :: .ref i :: st) σ := by
  intro H locs ls hP hS hL
  exact va_iald hB.1 hB.2.1 hB.2.2.2.2.2.2.1 hP i 0 (zws_at hl) rfl hj hd (kk H locs ls hP hS hL)
theorem zw_alen {i N : Nat} (hB : zB M n X) (hd : decode M.2.1 pc = .ok (.arraylength, 1)) (hl : zLY[i]? = some (.inl N)) (kk : zW X (pc + 1) lv (.int (nI N) :: st) σ) : zW X pc lv (.ref i :: st) σ := by
  intro H locs ls hP hS hL
  exact va_alen hB.1 hB.2.1 hB.2.2.2.2.2.2.1 hP i 0 (zws_at hl) rfl rfl hd (kk H locs ls hP hS hL)
theorem zws_puta {E : zEn} {i N : Nat} {f : Nat → Int32} (hl : zLY[i]? = some (.inl N)) : (zws E σ).set i (E.2.2 i, .inl (E.2.1, N, .inl f)) = zws E (zC σ i f) := by
  rw [← zws_set (σ := σ) (τ := zC σ i f) hl (fun a ha => zC_n ha)]
  simp [zcell, zC]
theorem zw_iast {i N : Nat} {j x : Int32} (hB : zB M n X) (hd : decode M.2.1 pc = .ok (.iastore, 1)) (hl : zLY[i]? = some (.inl N)) (hj : vp_in j N) (kk : zW X (pc + 1) lv st (zC σ i (upd (σ i) j.toNatClampNeg x))) : zW X pc lv (.int x :: .int j :: .ref i :: st) σ := by
  intro H locs ls hP hS hL
  refine va_iast hB.1 hB.2.1 hB.2.2.2.2.2.2.1 hP (zD hB.2.2.2.2.2.2.2.1 σ) hS i 0 (zws_at hl) rfl hj hd (fun H1 locs1 hP1 _ hS1 => ?_)
  rw [zws_puta hl] at hP1
  exact kk H1 locs1 ls hP1 hS1 hL
theorem zw_copy {i0 i1 N0 N1 idx : Nat} {sp dp k : Int32} (hB : zB M (n + 1) X) (hd : decode M.2.1 pc = .ok (.invokestatic idx, 3)) (hw : Cond.methodLink M.1.cls idx arraycopyName ∈ zts) (hst : st = []) (hl0 : zLY[i0]? = some (.inl N0)) (hl1 : zLY[i1]? = some (.inl N1)) (h1 : ¬ sp < 0) (h2 : ¬ dp < 0) (h3 : ¬ k < 0) (h4 : sp.toNatClampNeg + k.toNatClampNeg ≤ N0) (h5 : dp.toNatClampNeg + k.toNatClampNeg ≤ N1)
    (kk : zW X (pc + 3) lv st (zC σ i1 (va_cpy (σ i0) (σ i1) sp.toNatClampNeg dp.toNatClampNeg k.toNatClampNeg))) : zW X pc lv (.int k :: .int dp :: .ref i1 :: .int sp :: .ref i0 :: st) σ := by
  intro H locs ls hP hS hL
  subst hst
  have hR := hB.2.2.2.2.2.2.2.2.2.1
  have hlo : 0 + (nativeFrameWords "java/lang/System" "arraycopy" 5 + 11) ≤ (zR X).locals := by
    have e : nativeFrameWords "java/lang/System" "arraycopy" 5 + 11 = 18 := by decide +kernel
    omega
  refine va_copyi hB.1 hB.2.1 hL.1.symm hB.2.2.2.2.1 (hB.2.2.2.2.2.1 _ hw) (hB.2.2.2.2.2.1 _ zt_nat) (hB.2.2.2.2.2.1 _ zt_stat) (hB.2.2.2.2.2.1 _ zt_ini) hB.2.2.2.2.2.2.1 hP (zD hB.2.2.2.2.2.2.2.1 σ) hS i0 i1 0 0 (zws_at hl0) (zws_at hl1) rfl rfl rfl h1 h2 h3 h4 h5 (fun _ _ => rfl) (by omega) hlo hd (fun H1 locs1 hP1 _ hS1 => ?_)
  rw [zws_puta hl1] at hP1
  exact kk H1 locs1 ls hP1 hS1 hL
theorem zw_max {idx : Nat} {x y : Int32} (hB : zB M (n + 1) X) (hd : decode M.2.1 pc = .ok (.invokestatic idx, 3)) (hw : Cond.methodLink M.1.cls idx Lib.Math.max.name ∈ zts) (hst : (st.map fun v => v.category).sum ≤ 8) (kk : zW X (pc + 3) lv (.int (if x < y then y else x) :: st) σ) : zW X pc lv (.int y :: .int x :: st) σ := by
  intro H locs ls hP hS hL
  have hR := hB.2.2.2.2.2.2.2.2.2.1
  have hC := hB.2.2.2.2.2.2.2.2.2.2
  have hst' : ((st.map (zV (zE X))).map fun v => v.category).sum ≤ 8 := by rw [List.map_map]; simpa [Function.comp_def, zV_cat] using hst
  exact va_mmax hB.1 hB.2.1 hL.1.symm hB.2.2.2.2.1 (hB.2.2.2.2.2.1 _ hw) (hB.2.2.2.2.2.1 _ zt_maxs) (hB.2.2.2.2.2.1 _ zt_math) (hB.2.2.2.2.2.1 _ zt_maxc) (by omega) (by omega) hC.1 hC.2 hd (kk H locs ls hP hS hL)
theorem zw_min {idx : Nat} {x y : Int32} (hB : zB M (n + 1) X) (hd : decode M.2.1 pc = .ok (.invokestatic idx, 3)) (hw : Cond.methodLink M.1.cls idx Lib.Math.min.name ∈ zts) (hst : (st.map fun v => v.category).sum ≤ 8) (kk : zW X (pc + 3) lv (.int (if y < x then y else x) :: st) σ) : zW X pc lv (.int y :: .int x :: st) σ := by
  intro H locs ls hP hS hL
  have hR := hB.2.2.2.2.2.2.2.2.2.1
  have hC := hB.2.2.2.2.2.2.2.2.2.2
  have hst' : ((st.map (zV (zE X))).map fun v => v.category).sum ≤ 8 := by rw [List.map_map]; simpa [Function.comp_def, zV_cat] using hst
  exact va_mmin hB.1 hB.2.1 hL.1.symm hB.2.2.2.2.1 (hB.2.2.2.2.2.1 _ hw) (hB.2.2.2.2.2.1 _ zt_mins) (hB.2.2.2.2.2.1 _ zt_math) (hB.2.2.2.2.2.1 _ zt_minc) (by omega) (by omega) hC.1 hC.2 hd (kk H locs ls hP hS hL)
end zFD


theorem zw_maxl {M : zM} {n pc : Nat} {X : zCx} {lv : List (Option Value)} {st : List Value} {σ : zSt} {idx : Nat} {x y : Int64} (hB : zB M (n + 1) X) (hd : decode M.2.1 pc = .ok (.invokestatic idx, 3)) (hw : Cond.methodLink M.1.cls idx Lib.MathLoose.max_long.x ∈ zts) (hst : (st.map fun v => v.category).sum ≤ 8) (kk : zW X (pc + 3) lv (.long (if y < x then x else y) :: st) σ) : zW X pc lv (.long y :: .long x :: st) σ := by
  intro H locs ls hP hS hL
  have hR := hB.2.2.2.2.2.2.2.2.2.1
  have hC := hB.2.2.2.2.2.2.2.2.2.2
  have hst' : ((st.map (zV (zE X))).map fun v => v.category).sum ≤ 8 := by rw [List.map_map]; simpa [Function.comp_def, zV_cat] using hst
  exact va_mmax_long hB.1 hB.2.1 hL.1.symm hB.2.2.2.2.1 (hB.2.2.2.2.2.1 _ hw) (hB.2.2.2.2.2.1 _ zt_maxls) (hB.2.2.2.2.2.1 _ zt_math) (hB.2.2.2.2.2.1 _ zt_maxlc) (by omega) (by omega) hC.1 hC.2 hd (kk H locs ls hP hS hL)
/-! what never changes -/
section zKR
variable {M : zM} {n pc : Nat} {X : zCx} {lv : List (Option Value)} {st : List Value} {σ : zSt}
theorem zK_get {X : zCx} {H : Heap} {locs : List Loc} (hS : va_S (zA (zE X)) (zs X).heap H locs) (a : Nat) (ha : a < (zs X).heap.size) (hn : ¬ zA (zE X) a) : H[a]? = (zs X).heap[a]? := hS.2.1 a ha hn
theorem zw_giving {idx : Nat} (hB : zB M n X) (hd : decode M.2.1 pc = .ok (.getstatic idx, 3)) (hw : Cond.fieldLink M.1.cls idx "RotationOfFarmers$Kinds" "GIVING" "[I" ∈ zts) (kk : zW X (pc + 3) lv (.ref 120 :: st) σ) : zW X pc lv st σ := by
  intro H locs ls hP hS hL
  exact va_gets hB.1 hB.2.1 hB.2.2.2.2.2.2.2.2.1.2.2.1.1 hS hB.2.2.2.2.1 (hB.2.2.2.2.2.1 _ hw) (fun _ h => h) hd (kk H locs ls hP hS hL)
theorem zw_tiring {idx : Nat} (hB : zB M n X) (hd : decode M.2.1 pc = .ok (.getstatic idx, 3)) (hw : Cond.fieldLink M.1.cls idx "RotationOfFarmers$Kinds" "TIRING" "[I" ∈ zts) (kk : zW X (pc + 3) lv (.ref 121 :: st) σ) : zW X pc lv st σ := by
  intro H locs ls hP hS hL
  exact va_gets hB.1 hB.2.1 hB.2.2.2.2.2.2.2.2.1.2.2.2.1.1 hS hB.2.2.2.2.1 (hB.2.2.2.2.2.1 _ hw) (fun _ h => h) hd (kk H locs ls hP hS hL)
theorem zw_compact {idx : Nat} (hB : zB M n X) (hd : decode M.2.1 pc = .ok (.getstatic idx, 3)) (hw : Cond.fieldLink M.1.cls idx "java/lang/String" "COMPACT_STRINGS" "Z" ∈ zts) (kk : zW X (pc + 3) lv (.int 1 :: st) σ) : zW X pc lv st σ := by
  intro H locs ls hP hS hL
  exact va_gets hB.1 hB.2.1 hB.2.2.2.2.2.2.2.2.1.2.2.2.2.1 hS hB.2.2.2.2.1 (hB.2.2.2.2.2.1 _ hw) (fun _ h => h) hd (kk H locs ls hP hS hL)
theorem zw_fmt {idx : Nat} (hB : zB M n X) (hd : decode M.2.1 pc = .ok (.getstatic idx, 3)) (hw : Cond.fieldLink M.1.cls idx "jdk/internal/util/Preconditions" "SIOOBE_FORMATTER" "Ljava/util/function/BiFunction;" ∈ zts) (kk : ∀ v : Value, (v = .null ∨ v = .ref 130) → zW X (pc + 3) lv (v :: st) σ) : zW X pc lv st σ := by
  intro H locs ls hP hS hL
  rcases hB.2.2.2.2.2.2.2.2.1.2.2.2.2.2 with h | h
  · exact va_gets hB.1 hB.2.1 h hS hB.2.2.2.2.1 (hB.2.2.2.2.2.1 _ hw) (fun _ h => h) hd (kk .null (Or.inl rfl) H locs ls hP hS hL)
  · exact va_gets hB.1 hB.2.1 h hS hB.2.2.2.2.1 (hB.2.2.2.2.2.1 _ hw) (fun _ h => h) hd (kk (.ref 130) (Or.inr rfl) H locs ls hP hS hL)
theorem zw_ldgiv {j : Int32} (hB : zB M n X) (hd : decode M.2.1 pc = .ok (.iaload, 1)) (hj : vp_in j 18) (kk : zW X (pc + 1) lv (.int (zgiv.getD j.toNatClampNeg 0) :: st) σ) : zW X pc lv (.int j :: .ref 120 :: st) σ := by
  intro H locs ls hP hS hL
  exact va_ti hB.1 hB.2.1 hB.2.2.2.2.2.2.2.2.1.2.2.1.2 hS hj rfl hd (kk H locs ls hP hS hL)
theorem zw_ldtir {j : Int32} (hB : zB M n X) (hd : decode M.2.1 pc = .ok (.iaload, 1)) (hj : vp_in j 6) (kk : zW X (pc + 1) lv (.int (ztir.getD j.toNatClampNeg 0) :: st) σ) : zW X pc lv (.int j :: .ref 121 :: st) σ := by
  intro H locs ls hP hS hL
  exact va_ti hB.1 hB.2.1 hB.2.2.2.2.2.2.2.2.1.2.2.2.1.2 hS hj rfl hd (kk H locs ls hP hS hL)
theorem zw_lengiv (hB : zB M n X) (hd : decode M.2.1 pc = .ok (.arraylength, 1)) (kk : zW X (pc + 1) lv (.int (nI 18) :: st) σ) : zW X pc lv (.ref 120 :: st) σ := by
  intro H locs ls hP hS hL
  exact va_tlen hB.1 hB.2.1 hB.2.2.2.2.2.2.2.2.1.2.2.1.2 hS rfl hd (kk H locs ls hP hS hL)
theorem zw_lentir (hB : zB M n X) (hd : decode M.2.1 pc = .ok (.arraylength, 1)) (kk : zW X (pc + 1) lv (.int (nI 6) :: st) σ) : zW X pc lv (.ref 121 :: st) σ := by
  intro H locs ls hP hS hL
  exact va_tlen hB.1 hB.2.1 hB.2.2.2.2.2.2.2.2.1.2.2.2.1.2 hS rfl hd (kk H locs ls hP hS hL)
theorem zw_svalue {idx i : Nat} (hi : i < 7) (hB : zB M n X) (hd : decode M.2.1 pc = .ok (.getfield idx, 3)) (hw : Cond.fieldLink M.1.cls idx "java/lang/String" "value" "[B" ∈ zts) (kk : zW X (pc + 3) lv (.ref (110 + i) :: st) σ) : zW X pc lv (.ref (100 + i) :: st) σ := by
  intro H locs ls hP hS hL
  exact vk_getf hB.1 hB.2.1 ((hB.2.2.2.2.2.2.2.2.1.1.1 i hi).2.2.1) hS hB.2.2.2.2.1 (hB.2.2.2.2.2.1 _ hw) (fun _ h => h) hd (kk H locs ls hP hS hL)
theorem zw_scoder {idx i : Nat} (hi : i < 7) (hB : zB M n X) (hd : decode M.2.1 pc = .ok (.getfield idx, 3)) (hw : Cond.fieldLink M.1.cls idx "java/lang/String" "coder" "B" ∈ zts) (kk : zW X (pc + 3) lv (.int 0 :: st) σ) : zW X pc lv (.ref (100 + i) :: st) σ := by
  intro H locs ls hP hS hL
  exact vk_getf hB.1 hB.2.1 ((hB.2.2.2.2.2.2.2.2.1.1.1 i hi).2.1) hS hB.2.2.2.2.1 (hB.2.2.2.2.2.1 _ hw) (fun _ h => h) hd (kk H locs ls hP hS hL)
theorem zw_sbyte {i : Nat} {j : Int32} (hi : i < 7) (hB : zB M n X) (hd : decode M.2.1 pc = .ok (.baload, 1)) (hj : vp_in j (zlen.getD i 0)) (kk : zW X (pc + 1) lv (.int ((zbyt.getD i []).getD j.toNatClampNeg 0) :: st) σ) : zW X pc lv (.int j :: .ref (110 + i) :: st) σ := by
  intro H locs ls hP hS hL
  exact va_tb hB.1 hB.2.1 ((hB.2.2.2.2.2.2.2.2.1.1.1 i hi).2.2.2) hS hj rfl hd (kk H locs ls hP hS hL)
theorem zw_slen {i : Nat} (hi : i < 7) (hB : zB M n X) (hd : decode M.2.1 pc = .ok (.arraylength, 1)) (kk : zW X (pc + 1) lv (.int (nI (zlen.getD i 0)) :: st) σ) : zW X pc lv (.ref (110 + i) :: st) σ := by
  intro H locs ls hP hS hL
  exact va_tlen hB.1 hB.2.1 ((hB.2.2.2.2.2.2.2.2.1.1.1 i hi).2.2.2) hS rfl hd (kk H locs ls hP hS hL)
end zKR
/-! calls -/
def zRc (C : String) (i : Nat) : Prop := (∃ (ci : Nat) (fs : List (Option Nat)) (q : vw_C), zLY[i]? = some (.inr (ci, fs)) ∧ zcl[ci]? = some q ∧ q.1 = C) ∨ (C = "java/lang/String" ∧ ∃ k, k < 7 ∧ i = 100 + k)
theorem zRc.of {C : String} {i ci : Nat} {fs : List (Option Nat)} {q : vw_C} (h : zLY[i]? = some (.inr (ci, fs))) (hc : zcl[ci]? = some q) (hq : q.1 = C) : zRc C i := Or.inl ⟨ci, fs, q, h, hc, hq⟩
theorem zRc.st {k : Nat} (h : k < 7) : zRc "java/lang/String" (100 + k) := Or.inr ⟨rfl, k, h, rfl⟩
theorem zblind (E : zEn) (as : List Value) (σ : zSt) : FrameBlind (va_Pc (as.map (zV E)) (fun U => zWd E σ U)) := by
  intro a U g mk q
  obtain ⟨q1, q2, q3, q4, q5⟩ := q
  exact ⟨q1, q2, va_K.moved (u := U) (U := U.calling g mk a) (Vm.Alike.refl U.vm) q3, q4, zK.same (u := U) (U := U.calling g mk a) rfl q5⟩
theorem zWd.of {M : zM} {n : Nat} {X : zCx} {σ : zSt} {H : Heap} {locs : List Loc} (hB : zB M n X) (hP : va_P (zE X).1 zcl (zws (zE X) σ) H) (hS : va_S (zA (zE X)) (zs X).heap H locs) {U : State} (hU : U.heap = H) (hW : (zs X).WarmedH U.vm) : zWd (zE X) σ U :=
  ⟨by rw [hU]; exact hP, va_K.moved hW.alike hB.2.2.2.2.2.2.1, hB.2.2.2.2.2.2.2.1, by rw [hU]; exact zK.to hW hB.2.2.2.2.2.2.2.2.1 (fun a h1 h2 => hS.2.1 a h1 h2)⟩
theorem zrun_go {M : zM} {n pc : Nat} {X : zCx} {H : Heap} {locs : List Loc} {ls : Array Slot} {rest st0 : List Value} {a : Array Value} {Q : Option Value → zSt → Prop}
    (hr : va_Run (zp X) (zl X) (ze X) (zR X) (zs X) (zm X) (zar X) (zbl X) (zmt X) (zco X) H locs (zce X) (zsl X) 0 0 (F0 (zm X) pc ls st0) rest (zQ (zE X) Q a) (zA (zE X))) (hS : va_S (zA (zE X)) (zs X).heap H locs)
    (kk : ∀ (v : Option Value) (τ : zSt) (H1 : Heap) (locs1 : List Loc), Q v τ → va_P (zE X).1 zcl (zws (zE X) τ) H1 → va_S (zA (zE X)) (zs X).heap H1 locs1 → W (zp X) (zl X) (ze X) (zR X) (zs X) (zm X) (zar X) (zbl X) (zmt X) (zco X) H1 locs1 (zce X) (zsl X) (zZ X) (F0 (zm X) (pc + 3) ls ((v.map (zV (zE X))).toList ++ rest))) :
    W (zp X) (zl X) (ze X) (zR X) (zs X) (zm X) (zar X) (zbl X) (zmt X) (zco X) H locs (zce X) (zsl X) (zZ X) (F0 (zm X) pc ls st0) := by
  intro T hT Y
  obtain ⟨v, st₀, t, T', L, h0, Y', hL, e1, e2, ⟨⟨r, τ, hv, hq, hb⟩, hz, hk⟩, st⟩ := hr T hT Y
  have hv : v = r.map (zV (zE X)) := by cases hv; rfl
  subst hv
  rw [h0] at hz hk
  obtain ⟨t2, a1, b1⟩ := kk r τ T'.heap (locs ++ L) hq (by rw [e1]; exact hb)
    ⟨Nat.le_trans hS.1 (by rw [e1]; exact hz), fun q h1 h2 => by rw [e1, hk q (Nat.lt_of_lt_of_le h1 hS.1) h2]; exact hS.2.1 q h1 h2, fun q hq => by
      rcases List.mem_append.mp hq with h | h
      · exact hS.2.2 q h
      · exact hL q h⟩ T' rfl Y'
  exact ⟨t2, st t2 a1, b1⟩
theorem zcat_sum (E : zEn) (st : List Value) : ((st.map (zV E)).map fun v => v.category).sum = (st.map fun v => v.category).sum := by
  rw [List.map_map]
  simp [Function.comp_def, zV_cat]
theorem zopt_list (E : zEn) (v : Option Value) (st : List Value) : (v.map (zV E)).toList ++ st.map (zV E) = (v.toList ++ st).map (zV E) := by cases v <;> simp
section zCL
variable {M M' : zM} {n n' k pc idx i : Nat} {X : zCx} {lv : List (Option Value)} {st as : List Value} {σ : zSt} {Q' : Option Value → zSt → Prop}
theorem zw_callG (hB : zB M (n + 1) X) (hd : decode M.2.1 pc = .ok (.invokevirtual idx, 3)) (hl : Cond.methodLink M.1.cls idx M'.1 ∈ zts) (hg : zGV M' k) (hk : as.length = k) (hmx : M'.2.2.1 ≤ 40) (hrc : zRc M'.1.cls i) (hst : (st.map fun v => v.category).sum ≤ 8) (hs : zSem n M' (.ref i :: as) σ Q')
    (kk : ∀ v τ, Q' v τ → zW X (pc + 3) lv (v.toList ++ st) τ) : zW X pc lv (as.reverse ++ .ref i :: st) σ := by
  intro H locs ls hP hS hL
  have hR := hB.2.2.2.2.2.2.2.2.2.1
  have hC := hB.2.2.2.2.2.2.2.2.2.2
  have hts := hB.2.2.2.2.2.1
  refine zrun_go (M := M) (n := n + 1) (rest := st.map (zV (zE X))) (va_runV (C := M'.1.cls) (As := as.map (zV (zE X))) (rest := st.map (zV (zE X))) (cc := M.2.1) (nL := M.2.2.1) (own := M.1.cls) (Ts := zts) ⟨hB.1, hB.2.1, hB.2.2.2.1, hB.2.2.2.2.1, hts⟩ (hs (zl X) (zE X))
    ⟨callB_of k hts (zgoodIn M' hg.1) rfl rfl rfl (hts _ hg.1.2.1) (hts _ hl) hg.1.2.2 ⟨?_, ?_⟩, hts _ hg.2.1, hts _ hg.2.2⟩ ⟨zblind _ _ _, ?_, fun U hU hW => ⟨rfl, zWd.of hB hP hS hU hW⟩⟩ rfl (by simpa using hk) (hL.1.trans hB.2.2.2.1) ?_ ?_ hd ⟨hC.1, hC.2⟩) hS (fun v τ H1 locs1 hq hP1 hS1 => ?_)
  · show n + 1 ≤ _
    omega
  · show 8 + (M'.2.2.1 + 11) + 64 * n ≤ _
    omega
  · rcases hrc with ⟨ci, fs, q, h1, h2, h3⟩ | ⟨h1, j, h2, h3⟩
    · obtain ⟨cell, c1, c2, c3⟩ := va_recv hB.2.2.2.2.2.2.1 hP h2 (zws_at h1)
      exact ⟨cell, c1, c2, by rw [← h3]; exact c3⟩
    · subst h3
      rw [h1]
      exact vk_recv (adK := fun i => (zE X).2.2 (100 + i)) (i := j) hB.2.2.2.2.2.2.2.2.1.1 h2 hS
  · simp [zV]
  · show 2 * 0 + _ ≤ 8
    rw [zcat_sum]
    omega
  · rw [zopt_list]
    exact kk v τ hq H1 locs1 ls hP1 hS1 hL
theorem zw_callSG (hB : zB M (n + 1) X) (hd : decode M.2.1 pc = .ok (.invokestatic idx, 3)) (hl : Cond.methodLink M.1.cls idx M'.1 ∈ zts) (hg : zGS M' k) (hk : as.length = k) (hmx : M'.2.2.1 ≤ 40) (hst : (st.map fun v => v.category).sum ≤ 8) (hs : zSem n M' as σ Q')
    (kk : ∀ v τ, Q' v τ → zW X (pc + 3) lv (v.toList ++ st) τ) : zW X pc lv (as.reverse ++ st) σ := by
  intro H locs ls hP hS hL
  have hR := hB.2.2.2.2.2.2.2.2.2.1
  have hC := hB.2.2.2.2.2.2.2.2.2.2
  have hts := hB.2.2.2.2.2.1
  refine zrun_go (M := M) (n := n + 1) (rest := st.map (zV (zE X))) (va_runS (As := as.map (zV (zE X))) (rest := st.map (zV (zE X))) (cc := M.2.1) (nL := M.2.2.1) (own := M.1.cls) (Ts := zts) ⟨hB.1, hB.2.1, hB.2.2.2.1, hB.2.2.2.2.1, hts⟩ (hs (zl X) (zE X))
    ⟨callB_of k hts (zgoodIn M' hg.1) rfl rfl rfl (hts _ hg.1.2.1) (hts _ hl) hg.1.2.2 ⟨?_, ?_⟩, hts _ hg.2⟩ ⟨zblind _ _ _, fun U hU hW => ⟨rfl, zWd.of hB hP hS hU hW⟩⟩ rfl (by simpa using hk) (hL.1.trans hB.2.2.2.1) ?_ ?_ hd ⟨hC.1, hC.2⟩) hS (fun v τ H1 locs1 hq hP1 hS1 => ?_)
  · show n + 1 ≤ _
    omega
  · show 8 + (M'.2.2.1 + 11) + 64 * n ≤ _
    omega
  · simp
  · show 2 * 0 + _ ≤ 8
    rw [zcat_sum]
    omega
  · rw [zopt_list]
    exact kk v τ hq H1 locs1 ls hP1 hS1 hL
end zCL

theorem zw_callV0 {M M' : zM} {n pc idx i : Nat} {X : zCx} {lv : List (Option Value)} {st : List Value} {σ : zSt} {Q' : Option Value → zSt → Prop} (hB : zB M (n + 1) X) (hd : decode M.2.1 pc = .ok (.invokevirtual idx, 3)) (hl : Cond.methodLink M.1.cls idx M'.1 ∈ zts) (hg : zGV M' 0) (hrc : zRc M'.1.cls i) (hs : zSem n M' [.ref i] σ Q') (kk : ∀ v τ, Q' v τ → zW X (pc + 3) lv (v.toList ++ st) τ) (hmx : M'.2.2.1 ≤ 40 := by decide) (hst : (st.map fun v => v.category).sum ≤ 8 := by first | exact Nat.le_of_ble_eq_true rfl | decide) : zW X pc lv (.ref i :: st) σ := zw_callG (as := []) hB hd hl hg rfl hmx hrc hst hs kk
theorem zw_callS0 {M M' : zM} {n pc idx : Nat} {X : zCx} {lv : List (Option Value)} {st : List Value} {σ : zSt} {Q' : Option Value → zSt → Prop} (hB : zB M (n + 1) X) (hd : decode M.2.1 pc = .ok (.invokestatic idx, 3)) (hl : Cond.methodLink M.1.cls idx M'.1 ∈ zts) (hg : zGS M' 0) (hs : zSem n M' [] σ Q') (kk : ∀ v τ, Q' v τ → zW X (pc + 3) lv (v.toList ++ st) τ) (hmx : M'.2.2.1 ≤ 40 := by decide) (hst : (st.map fun v => v.category).sum ≤ 8 := by first | exact Nat.le_of_ble_eq_true rfl | decide) : zW X pc lv (st) σ := zw_callSG (as := []) hB hd hl hg rfl hmx hst hs kk
theorem zw_callV1 {M M' : zM} {n pc idx i : Nat} {X : zCx} {lv : List (Option Value)} {st : List Value} {σ : zSt} {Q' : Option Value → zSt → Prop} {v0 : Value} (hB : zB M (n + 1) X) (hd : decode M.2.1 pc = .ok (.invokevirtual idx, 3)) (hl : Cond.methodLink M.1.cls idx M'.1 ∈ zts) (hg : zGV M' 1) (hrc : zRc M'.1.cls i) (hs : zSem n M' [.ref i, v0] σ Q') (kk : ∀ v τ, Q' v τ → zW X (pc + 3) lv (v.toList ++ st) τ) (hmx : M'.2.2.1 ≤ 40 := by decide) (hst : (st.map fun v => v.category).sum ≤ 8 := by first | exact Nat.le_of_ble_eq_true rfl | decide) : zW X pc lv (v0 :: .ref i :: st) σ := zw_callG (as := [v0]) hB hd hl hg rfl hmx hrc hst hs kk
theorem zw_callS1 {M M' : zM} {n pc idx : Nat} {X : zCx} {lv : List (Option Value)} {st : List Value} {σ : zSt} {Q' : Option Value → zSt → Prop} {v0 : Value} (hB : zB M (n + 1) X) (hd : decode M.2.1 pc = .ok (.invokestatic idx, 3)) (hl : Cond.methodLink M.1.cls idx M'.1 ∈ zts) (hg : zGS M' 1) (hs : zSem n M' [v0] σ Q') (kk : ∀ v τ, Q' v τ → zW X (pc + 3) lv (v.toList ++ st) τ) (hmx : M'.2.2.1 ≤ 40 := by decide) (hst : (st.map fun v => v.category).sum ≤ 8 := by first | exact Nat.le_of_ble_eq_true rfl | decide) : zW X pc lv (v0 :: st) σ := zw_callSG (as := [v0]) hB hd hl hg rfl hmx hst hs kk
theorem zw_callV2 {M M' : zM} {n pc idx i : Nat} {X : zCx} {lv : List (Option Value)} {st : List Value} {σ : zSt} {Q' : Option Value → zSt → Prop} {v0 v1 : Value} (hB : zB M (n + 1) X) (hd : decode M.2.1 pc = .ok (.invokevirtual idx, 3)) (hl : Cond.methodLink M.1.cls idx M'.1 ∈ zts) (hg : zGV M' 2) (hrc : zRc M'.1.cls i) (hs : zSem n M' [.ref i, v0, v1] σ Q') (kk : ∀ v τ, Q' v τ → zW X (pc + 3) lv (v.toList ++ st) τ) (hmx : M'.2.2.1 ≤ 40 := by decide) (hst : (st.map fun v => v.category).sum ≤ 8 := by first | exact Nat.le_of_ble_eq_true rfl | decide) : zW X pc lv (v1 :: v0 :: .ref i :: st) σ := zw_callG (as := [v0, v1]) hB hd hl hg rfl hmx hrc hst hs kk
theorem zw_callS2 {M M' : zM} {n pc idx : Nat} {X : zCx} {lv : List (Option Value)} {st : List Value} {σ : zSt} {Q' : Option Value → zSt → Prop} {v0 v1 : Value} (hB : zB M (n + 1) X) (hd : decode M.2.1 pc = .ok (.invokestatic idx, 3)) (hl : Cond.methodLink M.1.cls idx M'.1 ∈ zts) (hg : zGS M' 2) (hs : zSem n M' [v0, v1] σ Q') (kk : ∀ v τ, Q' v τ → zW X (pc + 3) lv (v.toList ++ st) τ) (hmx : M'.2.2.1 ≤ 40 := by decide) (hst : (st.map fun v => v.category).sum ≤ 8 := by first | exact Nat.le_of_ble_eq_true rfl | decide) : zW X pc lv (v1 :: v0 :: st) σ := zw_callSG (as := [v0, v1]) hB hd hl hg rfl hmx hst hs kk
theorem zw_callV3 {M M' : zM} {n pc idx i : Nat} {X : zCx} {lv : List (Option Value)} {st : List Value} {σ : zSt} {Q' : Option Value → zSt → Prop} {v0 v1 v2 : Value} (hB : zB M (n + 1) X) (hd : decode M.2.1 pc = .ok (.invokevirtual idx, 3)) (hl : Cond.methodLink M.1.cls idx M'.1 ∈ zts) (hg : zGV M' 3) (hrc : zRc M'.1.cls i) (hs : zSem n M' [.ref i, v0, v1, v2] σ Q') (kk : ∀ v τ, Q' v τ → zW X (pc + 3) lv (v.toList ++ st) τ) (hmx : M'.2.2.1 ≤ 40 := by decide) (hst : (st.map fun v => v.category).sum ≤ 8 := by first | exact Nat.le_of_ble_eq_true rfl | decide) : zW X pc lv (v2 :: v1 :: v0 :: .ref i :: st) σ := zw_callG (as := [v0, v1, v2]) hB hd hl hg rfl hmx hrc hst hs kk
theorem zw_callS3 {M M' : zM} {n pc idx : Nat} {X : zCx} {lv : List (Option Value)} {st : List Value} {σ : zSt} {Q' : Option Value → zSt → Prop} {v0 v1 v2 : Value} (hB : zB M (n + 1) X) (hd : decode M.2.1 pc = .ok (.invokestatic idx, 3)) (hl : Cond.methodLink M.1.cls idx M'.1 ∈ zts) (hg : zGS M' 3) (hs : zSem n M' [v0, v1, v2] σ Q') (kk : ∀ v τ, Q' v τ → zW X (pc + 3) lv (v.toList ++ st) τ) (hmx : M'.2.2.1 ≤ 40 := by decide) (hst : (st.map fun v => v.category).sum ≤ 8 := by first | exact Nat.le_of_ble_eq_true rfl | decide) : zW X pc lv (v2 :: v1 :: v0 :: st) σ := zw_callSG (as := [v0, v1, v2]) hB hd hl hg rfl hmx hst hs kk
theorem zw_callV4 {M M' : zM} {n pc idx i : Nat} {X : zCx} {lv : List (Option Value)} {st : List Value} {σ : zSt} {Q' : Option Value → zSt → Prop} {v0 v1 v2 v3 : Value} (hB : zB M (n + 1) X) (hd : decode M.2.1 pc = .ok (.invokevirtual idx, 3)) (hl : Cond.methodLink M.1.cls idx M'.1 ∈ zts) (hg : zGV M' 4) (hrc : zRc M'.1.cls i) (hs : zSem n M' [.ref i, v0, v1, v2, v3] σ Q') (kk : ∀ v τ, Q' v τ → zW X (pc + 3) lv (v.toList ++ st) τ) (hmx : M'.2.2.1 ≤ 40 := by decide) (hst : (st.map fun v => v.category).sum ≤ 8 := by first | exact Nat.le_of_ble_eq_true rfl | decide) : zW X pc lv (v3 :: v2 :: v1 :: v0 :: .ref i :: st) σ := zw_callG (as := [v0, v1, v2, v3]) hB hd hl hg rfl hmx hrc hst hs kk
theorem zw_callS4 {M M' : zM} {n pc idx : Nat} {X : zCx} {lv : List (Option Value)} {st : List Value} {σ : zSt} {Q' : Option Value → zSt → Prop} {v0 v1 v2 v3 : Value} (hB : zB M (n + 1) X) (hd : decode M.2.1 pc = .ok (.invokestatic idx, 3)) (hl : Cond.methodLink M.1.cls idx M'.1 ∈ zts) (hg : zGS M' 4) (hs : zSem n M' [v0, v1, v2, v3] σ Q') (kk : ∀ v τ, Q' v τ → zW X (pc + 3) lv (v.toList ++ st) τ) (hmx : M'.2.2.1 ≤ 40 := by decide) (hst : (st.map fun v => v.category).sum ≤ 8 := by first | exact Nat.le_of_ble_eq_true rfl | decide) : zW X pc lv (v3 :: v2 :: v1 :: v0 :: st) σ := zw_callSG (as := [v0, v1, v2, v3]) hB hd hl hg rfl hmx hst hs kk
theorem zw_callV5 {M M' : zM} {n pc idx i : Nat} {X : zCx} {lv : List (Option Value)} {st : List Value} {σ : zSt} {Q' : Option Value → zSt → Prop} {v0 v1 v2 v3 v4 : Value} (hB : zB M (n + 1) X) (hd : decode M.2.1 pc = .ok (.invokevirtual idx, 3)) (hl : Cond.methodLink M.1.cls idx M'.1 ∈ zts) (hg : zGV M' 5) (hrc : zRc M'.1.cls i) (hs : zSem n M' [.ref i, v0, v1, v2, v3, v4] σ Q') (kk : ∀ v τ, Q' v τ → zW X (pc + 3) lv (v.toList ++ st) τ) (hmx : M'.2.2.1 ≤ 40 := by decide) (hst : (st.map fun v => v.category).sum ≤ 8 := by first | exact Nat.le_of_ble_eq_true rfl | decide) : zW X pc lv (v4 :: v3 :: v2 :: v1 :: v0 :: .ref i :: st) σ := zw_callG (as := [v0, v1, v2, v3, v4]) hB hd hl hg rfl hmx hrc hst hs kk
theorem zw_callS5 {M M' : zM} {n pc idx : Nat} {X : zCx} {lv : List (Option Value)} {st : List Value} {σ : zSt} {Q' : Option Value → zSt → Prop} {v0 v1 v2 v3 v4 : Value} (hB : zB M (n + 1) X) (hd : decode M.2.1 pc = .ok (.invokestatic idx, 3)) (hl : Cond.methodLink M.1.cls idx M'.1 ∈ zts) (hg : zGS M' 5) (hs : zSem n M' [v0, v1, v2, v3, v4] σ Q') (kk : ∀ v τ, Q' v τ → zW X (pc + 3) lv (v.toList ++ st) τ) (hmx : M'.2.2.1 ≤ 40 := by decide) (hst : (st.map fun v => v.category).sum ≤ 8 := by first | exact Nat.le_of_ble_eq_true rfl | decide) : zW X pc lv (v4 :: v3 :: v2 :: v1 :: v0 :: st) σ := zw_callSG (as := [v0, v1, v2, v3, v4]) hB hd hl hg rfl hmx hst hs kk
theorem zw_callV6 {M M' : zM} {n pc idx i : Nat} {X : zCx} {lv : List (Option Value)} {st : List Value} {σ : zSt} {Q' : Option Value → zSt → Prop} {v0 v1 v2 v3 v4 v5 : Value} (hB : zB M (n + 1) X) (hd : decode M.2.1 pc = .ok (.invokevirtual idx, 3)) (hl : Cond.methodLink M.1.cls idx M'.1 ∈ zts) (hg : zGV M' 6) (hrc : zRc M'.1.cls i) (hs : zSem n M' [.ref i, v0, v1, v2, v3, v4, v5] σ Q') (kk : ∀ v τ, Q' v τ → zW X (pc + 3) lv (v.toList ++ st) τ) (hmx : M'.2.2.1 ≤ 40 := by decide) (hst : (st.map fun v => v.category).sum ≤ 8 := by first | exact Nat.le_of_ble_eq_true rfl | decide) : zW X pc lv (v5 :: v4 :: v3 :: v2 :: v1 :: v0 :: .ref i :: st) σ := zw_callG (as := [v0, v1, v2, v3, v4, v5]) hB hd hl hg rfl hmx hrc hst hs kk
