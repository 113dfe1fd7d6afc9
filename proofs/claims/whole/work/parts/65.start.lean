/-! THE CLAIM OUT OF ONE WALK OF THE LAW'S BODY. Your part is whole_start (and what it stands on); all else here is the same for every law, but numbers. -/
def R_law : String := "RotationOfFarmersLaw"
def lw_P (b : Addr) (xs : List Int32) (args : Array Value) (s : State) : Prop := args = #[.ref b] ∧ s.IntsAt b xs ∧ xs.length ≤ 2560 ∧ (Jvm.Cond.and given_1 narrow_1).before args s = true
def lw_Q (_ : Array Value) (s : State) (o : Outcome) (t : State) : Prop := o = .returned (some (.int 1)) ∧ Framed s o t [] 600000 7302250
def lw_Z (below : List Frame) (a : Array Value) (s : State) : State → Prop := fun t => ∃ o, t.status = .running ∧ Ended t below o ∧ lw_Q a s o t
/-- the law's own end, with 1 on the stack, nothing written that was there before, its room as the claim has it -/
theorem lw_ret {p : Program} {l : Launch} {e : Env} {s : State} {m : MethodId} {below : List Frame} {meth : Method} {c : Code} {b : Nat} (hx : p.tables.exec = Jvm.exec) (hb : c.code = code) (hr : meth.sig.returnType = ret) (hlocks : meth.locks = false) {pc : Nat} {H : Heap} {ls : Array Slot} (hdg : decode code pc = .ok (.ireturn, 1)) : W p l e room_1 s m #[Value.ref b] below meth c H [] 600000 7302250 (lw_Z below #[Value.ref b] s) (F0 m pc ls [.int 1]) := by
  intro T hT X
  obtain ⟨fs, hret, hrun, hended, hW, hframe⟩ := X.leave (v := some (.int 1)) (hlocks := hlocks) (fun h => by rw [hr] at h; cases h)
  have hmeth' : T.vm.method? m = some meth := X.method'
  refine ⟨T.setFrames fs, ?_, .returned (some (.int 1)), hrun, hended, rfl, ⟨_, rfl⟩, hW, hframe⟩
  jvm_step X.here [X.here.top, hx, hb, hdg, hmeth', hr, ret, narrow_b1]
  (try refine ⟨rfl, ?_⟩); (try refine ⟨rfl, ?_⟩)
  first | (intro acts; rw [hret _ acts rfl rfl rfl]) | rw [hret _ _ rfl rfl rfl]
  exact Steps.refl _
/-- what holds at the law's entry: the machine, the code, the tables' words (any of lw_tbl by 'hts w (by decide +kernel)'), the script of L ints xs at the cell b, what the Statement gives of the start (any of its parts by flat_of_before) -/
def lw_At (p : Program) (s : State) (m : MethodId) (meth : Method) (c : Code) (b L : Nat) (xs : Nat → Int32) : Prop :=
  p.tables.exec = Jvm.exec ∧ c.code = code ∧ meth.sig.returnType = ret ∧ c.maxLocals = 4 ∧ s.vm.findClass R_law = some m.cls ∧ (∀ w ∈ lw_tbl, w.before #[Value.ref b] s = true) ∧ va_X b L xs s s.heap ∧ b < s.heap.size ∧ meth.locks = false ∧ (Jvm.Cond.and given_1 narrow_1).before #[Value.ref b] s = true
def ztm (i : Nat) : Term := .string (zstr.getD i ("", 0, "", 0)).1 (zstr.getD i ("", 0, "", 0)).2.1
abbrev zfl : List Cond := flatC (Jvm.Cond.and given_1 narrow_1)
abbrev tGIV : Term := .static "RotationOfFarmers$Kinds" "GIVING" "[I"
abbrev tTIR : Term := .static "RotationOfFarmers$Kinds" "TIRING" "[I"
abbrev zval (i : Nat) : Term := .field (ztm i) "java/lang/String" "value" "[B"
set_option maxRecDepth 100000 in
theorem zm_ex : ∀ i, i < 7 → Cond.exactly (ztm i) "java/lang/String" ∈ zfl := by decide +kernel
set_option maxRecDepth 100000 in
theorem zm_co : ∀ i, i < 7 → Cond.eq (.field (ztm i) "java/lang/String" "coder" "B") (.int 0) ∈ zfl := by decide +kernel
set_option maxRecDepth 100000 in
theorem zm_ar : ∀ i, i < 7 → Cond.arrayOf (zval i) .byte ∈ zfl := by decide +kernel
set_option maxRecDepth 100000 in
theorem zm_le : ∀ i, i < 7 → Cond.eq (.length (zval i)) (.int (Int32.ofNat (zlen.getD i 0))) ∈ zfl := by decide +kernel
set_option maxRecDepth 100000 in
theorem zm_el : ∀ i, i < 7 → ∀ j, j < zlen.getD i 0 → Cond.eq (.elem (zval i) (.int (Int32.ofNat j))) (.int ((zbyt.getD i []).getD j 0)) ∈ zfl := by decide +kernel
set_option maxRecDepth 100000 in
theorem zm_ne : ∀ i, i < 7 → ∀ j, j < 7 → i < j → Cond.not (Cond.eq (ztm i) (ztm j)) ∈ zfl := by decide +kernel
set_option maxRecDepth 100000 in
theorem zm_gi : ∀ j, j < 18 → Cond.eq (.elem tGIV (.int (Int32.ofNat j))) (.int (zgiv.getD j 0)) ∈ zfl := by decide +kernel
set_option maxRecDepth 100000 in
theorem zm_ti : ∀ j, j < 6 → Cond.eq (.elem tTIR (.int (Int32.ofNat j))) (.int (ztir.getD j 0)) ∈ zfl := by decide +kernel
set_option maxRecDepth 100000 in
theorem zm_1 : Cond.arrayOf tGIV .int ∈ zfl := by decide +kernel
set_option maxRecDepth 100000 in
theorem zm_2 : Cond.arrayOf tTIR .int ∈ zfl := by decide +kernel
set_option maxRecDepth 100000 in
theorem zm_3 : Cond.eq (.length tGIV) (.int (Int32.ofNat 18)) ∈ zfl := by decide +kernel
set_option maxRecDepth 100000 in
theorem zm_4 : Cond.eq (.length tTIR) (.int (Int32.ofNat 6)) ∈ zfl := by decide +kernel
set_option maxRecDepth 100000 in
theorem zm_5 : Cond.eq (.static "java/lang/String" "COMPACT_STRINGS" "Z") (.int 1) ∈ zfl := by decide +kernel
set_option maxRecDepth 100000 in
theorem zm_6 : Cond.isRef (.static "jdk/internal/util/Preconditions" "SIOOBE_FORMATTER" "Ljava/util/function/BiFunction;") ∈ zfl := by decide +kernel
def zKs (k v : Nat → Nat) (t u f : Nat) (A : Nat → Prop) (s : State) : Prop :=
  vk_S 7 zlen zbyt k v A s s.heap ∧ (∀ q ∈ zstr, vk_R q.1 q.2.1 q.2.2.1 (k q.2.2.2) s) ∧
  (va_Z "RotationOfFarmers$Kinds" "GIVING" "[I" (.ref t) A s s.heap ∧ va_T .int t 18 (fun j => .int (zgiv.getD j 0)) A s s.heap) ∧
  (va_Z "RotationOfFarmers$Kinds" "TIRING" "[I" (.ref u) A s s.heap ∧ va_T .int u 6 (fun j => .int (ztir.getD j 0)) A s s.heap) ∧
  va_Z "java/lang/String" "COMPACT_STRINGS" "Z" (.int 1) A s s.heap ∧
  (va_Z "jdk/internal/util/Preconditions" "SIOOBE_FORMATTER" "Ljava/util/function/BiFunction;" .null A s s.heap ∨ va_Z "jdk/internal/util/Preconditions" "SIOOBE_FORMATTER" "Ljava/util/function/BiFunction;" (.ref f) A s s.heap)
theorem zk_start {s : State} {args : Array Value} {A : Nat → Prop} (hts : ∀ w ∈ lw_tbl, w.before args s = true) (hs : ∀ w ∈ zfl, w.before args s = true) (hA : ∀ a : Nat, a < s.heap.size → ¬ A a) : ∃ (k v : Nat → Nat) (t u f : Nat), zKs k v t u f A s := by
  obtain ⟨k, v, hS, hk⟩ := vk_Sof (s := s) (args := args) (N := 7) (tm := ztm) (len := zlen) (byt := zbyt) (A := A) (by decide +kernel) (fun i hi => hs _ (zm_ex i hi)) (fun i hi => hs _ (zm_co i hi)) (fun i hi => hs _ (zm_ar i hi)) (fun i hi => hs _ (zm_le i hi)) (fun i hi j hj => hs _ (zm_el i hi j hj))
    (fun i j hi hj hij => by
      rcases Nat.lt_or_gt_of_ne hij with q | q
      · exact Or.inl (hs _ (zm_ne i hi j hj q))
      · exact Or.inr (hs _ (zm_ne j hj i hi q))) hA
  obtain ⟨t, ht, hT⟩ := va_Tof (s := s) (args := args) (tm := tGIV) (ty := .int) (N := 18) (f := fun j => .int (zgiv.getD j 0)) (A := A) (by decide) (hs _ zm_1) (va_eqt (hs _ zm_3)) (fun j hj => va_eqt (hs _ (zm_gi j hj))) hA
  obtain ⟨u, hu, hU⟩ := va_Tof (s := s) (args := args) (tm := tTIR) (ty := .int) (N := 6) (f := fun j => .int (ztir.getD j 0)) (A := A) (by decide) (hs _ zm_2) (va_eqt (hs _ zm_4)) (fun j hj => va_eqt (hs _ (zm_ti j hj))) hA
  have hR : ∀ q ∈ zstr, vk_R q.1 q.2.1 q.2.2.1 (k q.2.2.2) s := by
    intro q hq
    unfold zstr at hq
    simp only [List.mem_cons, List.not_mem_nil, or_false] at hq
    rcases hq with rfl | rfl | rfl | rfl | rfl | rfl | rfl
    · exact vk_R.of (hts _ (List.mem_of_getElem? (i := 256) (by decide +kernel))) (hk 0 (by decide))
    · exact vk_R.of (hts _ (List.mem_of_getElem? (i := 270) (by decide +kernel))) (hk 1 (by decide))
    · exact vk_R.of (hts _ (List.mem_of_getElem? (i := 271) (by decide +kernel))) (hk 2 (by decide))
    · exact vk_R.of (hts _ (List.mem_of_getElem? (i := 272) (by decide +kernel))) (hk 3 (by decide))
    · exact vk_R.of (hts _ (List.mem_of_getElem? (i := 273) (by decide +kernel))) (hk 4 (by decide))
    · exact vk_R.of (hts _ (List.mem_of_getElem? (i := 274) (by decide +kernel))) (hk 5 (by decide))
    · exact vk_R.of (hts _ (List.mem_of_getElem? (i := 323) (by decide +kernel))) (hk 6 (by decide))
  have hq := va_Zqof (s := s) (args := args) (A := A) (hts _ (List.mem_of_getElem? (i := 294) (by decide +kernel))) (hts _ (List.mem_of_getElem? (i := 44) (by decide +kernel))) (hs _ zm_6) hA
  have h1 := va_Zref (s := s) (args := args) (A := A) (hts _ (List.mem_of_getElem? (i := 495) (by decide +kernel))) (hts _ (List.mem_of_getElem? (i := 46) (by decide +kernel))) ht hA
  have h2 := va_Zref (s := s) (args := args) (A := A) (hts _ (List.mem_of_getElem? (i := 500) (by decide +kernel))) (hts _ (List.mem_of_getElem? (i := 46) (by decide +kernel))) hu hA
  have h3 := va_Zof (s := s) (args := args) (A := A) (v := .int 1) (hts _ (List.mem_of_getElem? (i := 266) (by decide +kernel))) (hts _ (List.mem_of_getElem? (i := 42) (by decide +kernel))) (va_eqt (hs _ zm_5)) hA
  rcases hq with hq | ⟨f, hq⟩
  · exact ⟨k, v, t, u, 0, hS, hR, ⟨h1, hT⟩, ⟨h2, hU⟩, h3, Or.inl hq⟩
  · exact ⟨k, v, t, u, f, hS, hR, ⟨h1, hT⟩, ⟨h2, hU⟩, h3, Or.inr hq⟩
/-! the start's world -/
def zmkE (G : va_G) (cI : ClassId) (adr : List Nat) (k v : Nat → Nat) (t u f b : Nat) : zEn := (G, cI, fun i => if i < 100 then adr.getD i 0 else if i = 120 then t else if i = 121 then u else if i = 122 then b else if i = 130 then f else if i < 110 then k (i - 100) else v (i - 110))
def z01 : Nat → Int32 := upd (fun _ => (0 : Int32)) 2 1
def z0w : zSt := fun i => cond (Nat.beq i 1 || Nat.beq i 9 || Nat.beq i 17 || Nat.beq i 28 || Nat.beq i 36 || Nat.beq i 51) z01 (fun _ => 0)
def z0S : zS := (zrow z0w 1, none, [], [], fun _ => 0)
theorem z0row : zro z0w 51 = zrow z0w 1 := by
  funext k
  rcases Nat.lt_or_ge k 47 with h | h
  · exact (by decide +kernel : ∀ k, k < 47 → zro z0w 51 k = zrow z0w 1 k) k h
  · rw [zro_out h]
    unfold zrow
    rw [if_neg (by omega), if_neg (by omega), if_neg (by omega)]
theorem z0gd : zGd (zrow z0w 1) 0 0 := by
  refine ⟨by omega, by omega, by decide +kernel, by decide +kernel, ⟨1, by omega, by decide +kernel⟩, ⟨0, by omega, by decide +kernel⟩, fun k hk => ⟨0, by omega, (by decide +kernel : ∀ k, k < 18 → zrow z0w 1 (5 + k) = nI 0) k hk⟩, fun p hp => absurd hp (Nat.not_lt_zero p), fun p q hp => absurd hp (Nat.not_lt_zero p), fun k hk => ?_⟩
  unfold zrow
  rw [if_neg (by omega), if_neg (by omega), if_neg (by omega)]
theorem z0ok : zOk z0S := ⟨⟨⟨0, 0, z0gd⟩, 0, by omega, by decide +kernel⟩, fun q h => (by cases h), ⟨Nat.zero_le _, fun x hx => absurd hx List.not_mem_nil⟩, ⟨Nat.zero_le _, fun x hx => absurd hx List.not_mem_nil⟩⟩
theorem z0cw : zCW z0S z0w := ⟨rfl, Or.inl ⟨rfl, by decide +kernel⟩, ⟨by decide +kernel, fun k hk => absurd hk (Nat.not_lt_zero k)⟩, ⟨by decide +kernel, fun k hk => absurd hk (Nat.not_lt_zero k)⟩, fun k hk => rfl⟩
theorem z0rw : zRW z0S z0w := ⟨z0row, Or.inl ⟨rfl, by decide +kernel⟩, ⟨by decide +kernel, fun k hk => absurd hk (Nat.not_lt_zero k)⟩, ⟨by decide +kernel, fun k hk => absurd hk (Nat.not_lt_zero k)⟩, fun k hk => rfl⟩
theorem zks_to {G : va_G} {cI : ClassId} {adr : List Nat} {k v : Nat → Nat} {t u f b : Nat} {A : Nat → Prop} {s : State} (h : zKs k v t u f A s) (hAB : ∀ q, zA (zmkE G cI adr k v t u f b) q → A q) : zK (zmkE G cI adr k v t u f b) s s.heap := by
  obtain ⟨h1, h2, ⟨h3, h4⟩, ⟨h5, h6⟩, h7, h8⟩ := h
  have e1 : ∀ i, i < 7 → (zmkE G cI adr k v t u f b).2.2 (100 + i) = k i := fun i hi => by
    show (if 100 + i < 100 then _ else if 100 + i = 120 then t else if 100 + i = 121 then u else if 100 + i = 122 then b else if 100 + i = 130 then f else if 100 + i < 110 then k (100 + i - 100) else v (100 + i - 110)) = k i
    rw [if_neg (by omega), if_neg (by omega), if_neg (by omega), if_neg (by omega), if_neg (by omega), if_pos (by omega), Nat.add_sub_cancel_left]
  have e2 : ∀ i, i < 7 → (zmkE G cI adr k v t u f b).2.2 (110 + i) = v i := fun i hi => by
    show (if 110 + i < 100 then _ else if 110 + i = 120 then t else if 110 + i = 121 then u else if 110 + i = 122 then b else if 110 + i = 130 then f else if 110 + i < 110 then k (110 + i - 100) else v (110 + i - 110)) = v i
    rw [if_neg (by omega), if_neg (by omega), if_neg (by omega), if_neg (by omega), if_neg (by omega), if_neg (by omega), Nat.add_sub_cancel_left]
  have h1 := h1.narrow hAB
  refine ⟨⟨fun i hi => ?_, fun i j hi hj e => h1.2 i j hi hj ?_⟩, fun q hq => ?_, ⟨h3.narrow hAB, h4.narrow hAB⟩, ⟨h5.narrow hAB, h6.narrow hAB⟩, h7.narrow hAB, h8.imp (fun z => z.narrow hAB) (fun z => z.narrow hAB)⟩
  · have g := h1.1 i hi
    rw [← e1 i hi, ← e2 i hi] at g
    exact g
  · exact (e1 i hi).symm.trans (e.trans (e1 j hj))
  · rw [e1 _ ((by decide +kernel : ∀ q ∈ zstr, q.2.2.2 < 7) q hq)]
    exact h2 q hq
set_option maxHeartbeats 4000000 in
theorem zlaw_go {p : Program} {e : Env} {s : State} {m : MethodId} {below : List Frame} {meth : Method} {c : Code} (l : Launch) {b L : Nat} {xs : Nat → Int32} (hL : L ≤ 2560) (C0 : lw_At p s m meth c b L xs)
    {G : va_G} {cI : ClassId} {adr : List Nat} {k v : Nat → Nat} {t u f : Nat} {H : Heap} {locs : List Loc} {ls : Array Slot} (hK : va_K G zcl [(cI, .int)] s) (hP : va_P G zcl (zws (zmkE G cI adr k v t u f b) z0w) H) (hD : va_D (fun q => s.heap.size ≤ q) (zws (zmkE G cI adr k v t u f b) z0w))
    (hS : va_S (fun q => s.heap.size ≤ q) s.heap H locs) (hk : zKs k v t u f (fun q => s.heap.size ≤ q) s) (hl : lv_has ls 4 [(3, .int (nI 0)), (2, .ref (adr.getD 50 0)), (1, .ref (adr.getD 0 0)), (0, .ref b)]) :
    W p l e room_1 s m #[Value.ref b] below meth c H locs 600000 7302250 (lw_Z below #[Value.ref b] s) (F0 m 18 ls []) := by
  obtain ⟨hx, hb, hr, hml, hown, hts, hX, hbl, hlocks, hgv⟩ := id C0
  have hz : ∀ w ∈ zts, w.before #[Value.ref b] s = true := fun w hw => hts w (zts_in hw)
  have hlen : ∀ i, i < 63 → ∃ d, zLY[i]? = some d := fun i hi => ⟨_, List.getElem?_eq_getElem (by rw [zLY_len]; exact hi)⟩
  have hge : ∀ i, i < 63 → s.heap.size ≤ (zmkE G cI adr k v t u f b).2.2 i := fun i hi => by
    obtain ⟨d, hd⟩ := hlen i hi
    exact hD.2 i _ (zws_at hd)
  have hAB : ∀ q, zA (zmkE G cI adr k v t u f b) q → s.heap.size ≤ q := fun q hq => by
    obtain ⟨i, hi, e⟩ := hq
    rw [e]
    exact hge i hi
  have hI : zI (zmkE G cI adr k v t u f b) := fun i j hi hj e => by
    obtain ⟨d, hd⟩ := hlen i hi
    obtain ⟨d', hd'⟩ := hlen j hj
    exact hD.1 i j _ _ (zws_at hd) (zws_at hd') e
  have hB : zB mL 21 ((p, l, e, room_1), (s, m, #[Value.ref b], below), (meth, c), zmkE G cI adr k v t u f b, (600000, 7302250), lw_Z below #[Value.ref b] s) :=
    ⟨hx, hb, hr, hml, hown, hz, hK, hI, zks_to hk hAB, ⟨Nat.le_of_ble_eq_true rfl, Nat.le_of_ble_eq_true rfl⟩, ⟨Nat.le_of_ble_eq_true rfl, Nat.le_of_ble_eq_true rfl⟩⟩
  have hXs : zXs ((p, l, e, room_1), (s, m, #[Value.ref b], below), (meth, c), zmkE G cI adr k v t u f b, (600000, 7302250), lw_Z below #[Value.ref b] s) L xs :=
    ⟨hX, hbl, fun h => absurd (hAB b h) (Nat.not_le.mpr hbl)⟩
  refine va_forget (fun q hq => hS.2.2 q hq) ?_
  refine zlaw_loop hB hXs hL (fun i σ H1 locs1 ls1 hP1 hS1 hV1 => ?_) L 0 z0S z0w (by omega) (by omega) z0ok z0cw z0rw H [] ls hP ⟨hS.1, fun q h1 h2 => hS.2.1 q h1 (Nat.not_le.mpr h1), fun q hq => absurd hq List.not_mem_nil⟩ ⟨hl.1.trans hml.symm, by rw [hl.1]; rfl, hl.2.1, fun i w h => ?_⟩
  · refine lv_iconst hx hb dL_law_1222 (by decide : Int32.ofInt 1 = 1) ?_
    refine va_forget (fun q hq => ?_) ?_
    · obtain ⟨j, hj, e1⟩ := hS1.2.2 q hq
      rw [e1]
      exact hge j hj
    · exact lw_ret hx hb hr hlocks dL_law_1223
  · match i, h with
    | 0, h =>
      have h : some (some (Value.ref 122)) = some (some w) := h
      cases h
      exact lv_at hl 3 rfl
    | 1, h =>
      have h : some (some (Value.ref 0)) = some (some w) := h
      cases h
      exact lv_at hl 2 rfl
    | 2, h =>
      have h : some (some (Value.ref 50)) = some (some w) := h
      cases h
      exact lv_at hl 1 rfl
    | 3, h =>
      have h : some (some (Value.int (nI 0))) = some (some w) := h
      cases h
      exact lv_at hl 0 rfl
    | i + 4, h => simp [zlv] at h
