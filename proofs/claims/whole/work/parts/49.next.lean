/-! NEXT: the class -/
def zcg (r : zRw) (p f : Nat) : Nat := (zga r p f).toNatClampNeg
theorem zcg_n {r : zRw} {F P p f : Nat} (h : zGd r F P) (hf : f < 6) : zga r p f = nI (zcg r p f) ∧ zcg r p f ≤ 18 := by
  have e : ∃ t, t ≤ 18 ∧ zga r p f = nI t := by
    unfold zga
    by_cases c : ztd r p < nI 10
    · rw [if_pos c]
      obtain ⟨a, ha, ea⟩ := h.ht (k := 3 * f) (by omega)
      obtain ⟨b, hb, eb⟩ := h.ht (k := 3 * f + 1) (by omega)
      rw [← Nat.add_assoc] at eb
      rw [ea, eb]
      exact zgrw_b ha hb
    · rw [if_neg c]; exact ⟨0, by omega, rfl⟩
  obtain ⟨t, ht, et⟩ := e
  have : zcg r p f = t := by rw [zcg, et, nI_clamp (by omega)]
  rw [this]; exact ⟨et, ht⟩
/-- the most of one and those behind him, by farms below j or none -/
def zbj (c N : Nat → Nat) (T : Nat) : Nat → Nat
  | 0 => N T
  | j + 1 => if T.testBit j = true then zbj c N T j else if zbj c N T j < c j + N (T ||| 2 ^ j) then c j + N (T ||| 2 ^ j) else zbj c N T j
def zbs (c : Nat → Nat → Nat) (F P : Nat) : Nat → Nat → Nat
  | 0 => fun _ => 0
  | k + 1 => fun T => zbj (c (P - (k + 1))) (zbs c F P k) T F
def zse (c N : Nat → Nat) (T b F : Nat) : Option Nat := zfst (fun j => decide (¬ T.testBit j = true ∧ c j + N (T ||| 2 ^ j) = b)) 0 F
def zsp (T : Nat) (s : Option Nat) : Nat := match s with | none => T | some j => T ||| 2 ^ j
/-- where q sits, of the last k the first best -/
def zcp (c : Nat → Nat → Nat) (F P : Nat) : Nat → Nat → Nat → Int32
  | 0 => fun _ _ => -9
  | k + 1 => fun T q => if q = P - (k + 1) then zopt (zse (c (P - (k + 1))) (zbs c F P k) T (zbs c F P (k + 1) T) F) else zcp c F P k (zsp T (zse (c (P - (k + 1))) (zbs c F P k) T (zbs c F P (k + 1) T) F)) q
theorem zbj_le {c N : Nat → Nat} {T B : Nat} (hc : ∀ j, c j ≤ 18) (hN : ∀ T, N T ≤ B) : ∀ j, zbj c N T j ≤ B + 18 := by
  intro j
  induction j with
  | zero => exact Nat.le_trans (hN T) (by omega)
  | succ j ih =>
    unfold zbj
    split
    · exact ih
    · split
      · have := hc j; have := hN (T ||| 2 ^ j); omega
      · exact ih
theorem zbj_leF {c N : Nat → Nat} {T B F : Nat} (hc : ∀ j, j < F → c j ≤ 18) (hN : ∀ T, N T ≤ B) : ∀ j, j ≤ F → zbj c N T j ≤ B + 18 := by
  intro j
  induction j with
  | zero => intro _; exact Nat.le_trans (hN T) (by omega)
  | succ j ih =>
    intro hj
    have ih := ih (by omega)
    unfold zbj
    split
    · exact ih
    · split
      · have := hc j (by omega); have := hN (T ||| 2 ^ j); omega
      · exact ih
theorem zbs_le {c : Nat → Nat → Nat} {F P : Nat} (hc : ∀ p j, j < F → c p j ≤ 18) : ∀ k T, zbs c F P k T ≤ 18 * k := by
  intro k
  induction k with
  | zero => intro T; exact Nat.zero_le _
  | succ k ih =>
    intro T
    have := zbj_leF (c := c (P - (k + 1))) (N := zbs c F P k) (T := T) (B := 18 * k) (F := F) (hc _) ih F (Nat.le_refl _)
    show zbj _ _ _ _ ≤ _
    omega
theorem zor : ∀ T, T < 64 → ∀ j, j < 6 → nI T ||| (nI 1 <<< (nI j &&& 31)) = nI (T ||| 2 ^ j) := by decide +kernel
theorem zor_lt {T j F : Nat} (hT : T < 2 ^ F) (hj : j < F) : T ||| 2 ^ j < 2 ^ F := Nat.or_lt_two_pow hT (Nat.pow_lt_pow_right (by omega) hj)
theorem z2F : ∀ F, F ≤ 6 → 2 ^ F ≤ 64 := by decide
theorem z2Fp : ∀ F, F ≤ 6 → 1 ≤ 2 ^ F := by decide
theorem zset1 {x y : Nat} (hx : x < 2 ^ 30) (hy : y < 2 ^ 30) : (if nI x < nI y then nI y else nI x) = nI (if x < y then y else x) := by
  by_cases c : x < y
  · rw [if_pos c, if_pos (nI_lt c (by omega))]
  · rw [if_neg c, if_neg (nI_nlt (by omega) (by omega))]
/-- a counter that ends at -1 -/
def zbg (b : Nat) : Int32 := if b = 0 then -1 else nI (b - 1)
theorem zbg_s (b : Nat) : zbg (b + 1) = nI b := if_neg (by omega)
theorem zbg_0 : zbg 0 = -1 := rfl
theorem zbg_d (b : Nat) : nI b + Int32.ofInt (-1) = zbg b := by
  cases b with
  | zero => decide
  | succ b => rw [zbg_s]; exact pk_m1 b
def zmx2 (x y : Int32) : Int32 := if x < y then y else x
def zps (g : Nat → Int32) (p f c i : Nat) : Nat → Int32 := fun x => if 64 * p ≤ x ∧ x < 64 * p + i ∧ ¬ (x - 64 * p).testBit f = true then zmx2 (g x) (nI c + g (64 * (p + 1) + ((x - 64 * p) ||| 2 ^ f))) else g x
theorem zps_o {g : Nat → Int32} {p f c i x : Nat} (h : ¬ (64 * p ≤ x ∧ x < 64 * p + i)) : zps g p f c i x = g x := if_neg (fun z => h ⟨z.1, z.2.1⟩)
theorem zps_b {g : Nat → Int32} {p f c i T : Nat} (h : T.testBit f = true) : zps g p f c i (64 * p + T) = g (64 * p + T) := if_neg (fun z => z.2.2 (by rw [show 64 * p + T - 64 * p = T by omega]; exact h))
theorem zps_t {g : Nat → Int32} {p f c i T : Nat} (hT : T < i) (h : ¬ T.testBit f = true) : zps g p f c i (64 * p + T) = zmx2 (g (64 * p + T)) (nI c + g (64 * (p + 1) + (T ||| 2 ^ f))) := by
  unfold zps
  rw [show 64 * p + T - 64 * p = T by omega]
  exact if_pos (And.intro (by omega) (And.intro (by omega) h))
theorem zps_0 {g : Nat → Int32} {p f c : Nat} : zps g p f c 0 = g := by
  funext x
  exact zps_o (by omega)
theorem zps_st {g : Nat → Int32} {p f c i : Nat} (h : i.testBit f = true) : zps g p f c (i + 1) = zps g p f c i := by
  funext x
  by_cases e : x = 64 * p + i
  · rw [e, zps_b h, zps_o (by omega)]
  · unfold zps
    by_cases q1 : 64 * p ≤ x ∧ x < 64 * p + i ∧ ¬ (x - 64 * p).testBit f = true
    · rw [if_pos q1]
      exact if_pos (And.intro q1.1 (And.intro (by omega) q1.2.2))
    · rw [if_neg q1]
      exact if_neg (fun z => q1 (And.intro z.1 (And.intro (by omega) z.2.2)))
theorem zps_sf {g : Nat → Int32} {p f c i : Nat} (h : ¬ i.testBit f = true) : zps g p f c (i + 1) = upd (zps g p f c i) (64 * p + i) (zmx2 (g (64 * p + i)) (nI c + g (64 * (p + 1) + (i ||| 2 ^ f)))) := by
  funext x
  by_cases e : x = 64 * p + i
  · rw [e, zupd_s, zps_t (by omega) h]
  · rw [zupd_o e]
    unfold zps
    by_cases q1 : 64 * p ≤ x ∧ x < 64 * p + i ∧ ¬ (x - 64 * p).testBit f = true
    · rw [if_pos q1]
      exact if_pos (And.intro q1.1 (And.intro (by omega) q1.2.2))
    · rw [if_neg q1]
      exact if_neg (fun z => q1 (And.intro z.1 (And.intro (by omega) z.2.2)))
def q_next (S : zS) (p : Int32) : Value × zS := zq S (znb (p = -1 ∨ zIn p (zNP S.1))) (.int (if p = -1 then nI (zbs (zcg S.1) (zNF S.1) (zNP S.1) (zNP S.1) 0) else zcp (zcg S.1) (zNF S.1) (zNP S.1) (zNP S.1) 0 p.toNatClampNeg), S)

theorem s_X4_isOpen {n : Nat} {σ : zSt}  {T f : Nat} (hT : T < 64) (hf : f < 6) : zSem n mX4_isOpen [.int (nI f), .int (nI T)] σ (zP σ (.int (zb (¬ T.testBit f = true)))) := by
  refine zSem.of (by decide +kernel) (Nat.le_of_ble_eq_true rfl) (fun X hB hR => ?_)
  show zW X 0 [some (.int (nI f)), some (.int (nI T))] [] σ
  refine zw_iload1 hB dX4_isOpen_0 ?_
  refine zw_iconst (x := nI 1) hB dX4_isOpen_1 (by decide) ?_
  refine zw_iload0 hB dX4_isOpen_2 ?_
  refine zw_ishl hB dX4_isOpen_3 ?_
  refine zw_iand hB dX4_isOpen_4 ?_
  refine zw_if_ne (tgt := 12) hB dX4_isOpen_5 (by decide) (fun c5 => ?_) (fun c5 => ?_)
  · refine zw_iconst (x := nI 0) hB dX4_isOpen_12 (by decide) ?_
    refine zw_zret hB hR dX4_isOpen_13 rfl (by decide) ?_
    exact ⟨by rw [zb_f (fun z => c5 ((zbit T (by omega) f (by omega)).mpr (Bool.eq_false_iff.mpr z)))]; rfl, rfl⟩
  · refine zw_iconst (x := nI 1) hB dX4_isOpen_8 (by decide) ?_
    refine zw_goto (tgt := 13) hB dX4_isOpen_9 (by decide) ?_
    refine zw_zret hB hR dX4_isOpen_13 rfl (by decide) ?_
    exact ⟨by rw [zb_t (Bool.eq_false_iff.mp ((zbit T (by omega) f (by omega)).mp c5))]; rfl, rfl⟩
theorem s_X4_mostBehind {n : Nat} {σ : zSt}  {p T : Nat} (hp : p < 6) (hT : T < 64) : zSem n mX4_mostBehind [.ref 44, .int (nI p), .int (nI T)] σ (zP σ (.int (σ 45 (64 * (p + 1) + T)))) := by
  refine zSem.of (by decide +kernel) (Nat.le_of_ble_eq_true rfl) (fun X hB hR => ?_)
  show zW X 0 [some (.ref 44), some (.int (nI p)), some (.int (nI T))] [] σ
  refine zw_aload0 hB dX4_mostBehind_0 ?_
  refine zw_getfR hB dX4_mostBehind_1 zf_X4_11 rfl rfl ?_
  refine zw_bipush (x := nI 64) hB dX4_mostBehind_4 (by decide) ?_
  refine zw_iload1 hB dX4_mostBehind_6 ?_
  refine zw_iconst (x := nI 1) hB dX4_mostBehind_7 (by decide) ?_
  refine zw_iaddN hB dX4_mostBehind_8 ?_
  refine zw_imulN hB dX4_mostBehind_9 ?_
  refine zw_iload2 hB dX4_mostBehind_10 ?_
  refine zw_iaddN hB dX4_mostBehind_11 ?_
  refine zw_ialdN hB dX4_mostBehind_12 rfl (by omega) (by decide) ?_
  refine zw_iret hB hR dX4_mostBehind_13 rfl ?_
  exact ⟨rfl, rfl⟩
theorem s_X4_most {n : Nat} {σ : zSt}   : zSem n mX4_most [.ref 44] σ (zP σ (.int (σ 45 0))) := by
  refine zSem.of (by decide +kernel) (Nat.le_of_ble_eq_true rfl) (fun X hB hR => ?_)
  show zW X 0 [some (.ref 44)] [] σ
  refine zw_aload0 hB dX4_most_0 ?_
  refine zw_getfR hB dX4_most_1 zf_X4_11 rfl rfl ?_
  refine zw_iconst (x := nI 0) hB dX4_most_4 (by decide) ?_
  refine zw_ialdN hB dX4_most_5 rfl (by omega) (by decide) ?_
  refine zw_iret hB hR dX4_most_6 rfl ?_
  exact ⟨rfl, rfl⟩
theorem s_X4_planSeat {n : Nat} {σ : zSt}  {F p f c : Nat} (hF6 : F ≤ 6) (hp : p < 6) (hf : f < F) : zSem (n + 2) mX4_planSeat [.ref 44, .int (nI p), .int (nI f), .int (nI c), .int (nI (2 ^ F))] σ (fun v τ => v = none ∧ τ 45 = (zps (σ 45) p f c (2 ^ F)) ∧ ∀ d, d ≠ 45 → τ d = σ d) := by
  refine zSem.of (by decide +kernel) (Nat.le_of_ble_eq_true rfl) (fun X hB hR => ?_)
  show zW X 0 [some (.ref 44), some (.int (nI p)), some (.int (nI f)), some (.int (nI c)), some (.int (nI (2 ^ F))), none, none] [] σ
  have h64 := z2F F hF6
  have hl : ∀ i, i ≤ 2 ^ F → ∀ (υ : zSt) (a6 : Option Value), υ 45 = (zps (σ 45) p f c (i)) → (∀ d, d ≠ 45 → υ d = σ d) → zW X 3 [some (.ref 44), some (.int (nI p)), some (.int (nI f)), some (.int (nI c)), some (.int (nI (2 ^ F))), some (.int (nI i)), a6] [] υ := by
    refine zfor (2 ^ F) (fun i hi ih => ?_)
    intro υ a6 hv ou
    refine zw_iload5 hB dX4_planSeat_3 ?_
    refine zw_iload4 hB dX4_planSeat_5 ?_
    refine zw_icmp_geN (tgt := 69) hB dX4_planSeat_7 (by decide) (by omega) (by omega) (fun c7 => ?_) (fun c7 => ?_)
    · refine zw_vret hB hR dX4_planSeat_69 rfl ?_
      exact ⟨rfl, by rw [hv, show i = 2 ^ F by omega], ou⟩
    · refine zw_iload2 hB dX4_planSeat_10 ?_
      refine zw_iload5 hB dX4_planSeat_11 ?_
      refine zw_callS2P (M' := mX4_isOpen) hB dX4_planSeat_13 zl_X4_35 zg_X4_isOpen (s_X4_isOpen (by omega) (by omega)) ?_
      refine zw_if_eqB (tgt := 63) hB dX4_planSeat_16 (by decide) (fun c16 => ?_) (fun c16 => ?_)
      · refine zw_iinc5 hB dX4_planSeat_63 (by first | exact zinc _ | rfl) (by first | rfl | assumption) ?_
        refine zw_goto (tgt := 3) hB dX4_planSeat_66 (by decide) ?_
        refine ih c7 _ _ ?_ ou
        rw [hv, zps_st (Decidable.not_not.mp c16)]
      · refine zw_iload3 hB dX4_planSeat_19 ?_
        refine zw_aload0 hB dX4_planSeat_20 ?_
        refine zw_iload1 hB dX4_planSeat_21 ?_
        refine zw_iload5 hB dX4_planSeat_22 ?_
        refine zw_iconst (x := nI 1) hB dX4_planSeat_24 (by decide) ?_
        refine zw_iload2 hB dX4_planSeat_25 ?_
        refine zw_ishl hB dX4_planSeat_26 ?_
        refine zw_ior hB dX4_planSeat_27 ?_
        rw [zor i (by omega) f (by omega)]
        refine zw_callV2P (M' := mX4_mostBehind) hB dX4_planSeat_28 zl_X4_24 zg_X4_mostBehind (zRc.of rfl rfl rfl) (s_X4_mostBehind (by omega) (by have := zor_lt c7 hf; omega)) ?_
        refine zw_eqI (y := σ 45 (64 * (p + 1) + (i ||| 2 ^ f))) (by rw [hv, zps_o (by omega)]) ?_
        refine zw_iadd hB dX4_planSeat_31 ?_
        refine zw_istore6 hB dX4_planSeat_32 (by first | rfl | assumption) ?_
        refine zw_aload0 hB dX4_planSeat_34 ?_
        refine zw_getfR hB dX4_planSeat_35 zf_X4_11 rfl rfl ?_
        refine zw_bipush (x := nI 64) hB dX4_planSeat_38 (by decide) ?_
        refine zw_iload1 hB dX4_planSeat_40 ?_
        refine zw_imulN hB dX4_planSeat_41 ?_
        refine zw_iload5 hB dX4_planSeat_42 ?_
        refine zw_iaddN hB dX4_planSeat_44 ?_
        refine zw_aload0 hB dX4_planSeat_45 ?_
        refine zw_getfR hB dX4_planSeat_46 zf_X4_11 rfl rfl ?_
        refine zw_bipush (x := nI 64) hB dX4_planSeat_49 (by decide) ?_
        refine zw_iload1 hB dX4_planSeat_51 ?_
        refine zw_imulN hB dX4_planSeat_52 ?_
        refine zw_iload5 hB dX4_planSeat_53 ?_
        refine zw_iaddN hB dX4_planSeat_55 ?_
        refine zw_ialdV (x := σ 45 (64 * p + i)) hB dX4_planSeat_56 rfl (by omega) (by decide) (by rw [hv, zps_o (by omega)]) ?_
        refine zw_iload6 hB dX4_planSeat_57 ?_
        refine zw_max hB dX4_planSeat_59 zl_X4_39 (by first | exact Nat.le_of_ble_eq_true rfl | decide) ?_
        refine zw_iastN hB dX4_planSeat_62 rfl (by omega) (by decide) ?_
        refine zw_iinc5 hB dX4_planSeat_63 (by first | exact zinc _ | rfl) (by first | rfl | assumption) ?_
        refine zw_goto (tgt := 3) hB dX4_planSeat_66 (by decide) ?_
        refine ih c7 _ _ ?_ (fun d hd => by rw [zC_n hd]; exact ou d hd)
        rw [zC_s, hv, zps_sf c16]
        rfl
  refine zw_iconst (x := nI 0) hB dX4_planSeat_0 (by decide) ?_
  refine zw_istore5 hB dX4_planSeat_1 (by first | rfl | assumption) ?_
  exact hl 0 (Nat.zero_le _) σ _ zps_0.symm (fun _ _ => rfl)
