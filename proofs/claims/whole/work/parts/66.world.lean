/-! the start's world, cell by cell -/
abbrev z0L (cI : ClassId) (q1 q2 : Nat) (a1 a2 : Nat → Nat) : va_W := [(q1, .inr (4, [.ref (a1 0), .ref (a1 8), .int 0, .ref (a1 16), .ref (a1 24), .ref (a1 26), .ref (a1 47), .int 0, .ref (a1 48)])), ((a1 0), .inr (0, [.int 0, .int 0, .int 1, .int 0, .int 0, .int 0, .ref ((a1 1)), .ref ((a1 2)), .ref ((a1 3)), .ref ((a1 4)), .ref ((a1 5)), .ref ((a1 6)), .ref ((a1 7))])), (((a1 1)), .inl (cI, 18, .inl (fun _ => (0 : Int32)))), (((a1 2)), .inl (cI, 6, .inl (fun _ => (0 : Int32)))), (((a1 3)), .inl (cI, 6, .inl (fun _ => (0 : Int32)))), (((a1 4)), .inl (cI, 6, .inl (fun _ => (0 : Int32)))), (((a1 5)), .inl (cI, 6, .inl (fun _ => (0 : Int32)))), (((a1 6)), .inl (cI, 6, .inl (fun _ => (0 : Int32)))), (((a1 7)), .inl (cI, 6, .inl (fun _ => (0 : Int32)))), ((a1 8), .inr (0, [.int 0, .int 0, .int 1, .int 0, .int 0, .int 0, .ref ((a1 9)), .ref ((a1 10)), .ref ((a1 11)), .ref ((a1 12)), .ref ((a1 13)), .ref ((a1 14)), .ref ((a1 15))])), (((a1 9)), .inl (cI, 18, .inl (fun _ => (0 : Int32)))), (((a1 10)), .inl (cI, 6, .inl (fun _ => (0 : Int32)))), (((a1 11)), .inl (cI, 6, .inl (fun _ => (0 : Int32)))), (((a1 12)), .inl (cI, 6, .inl (fun _ => (0 : Int32)))), (((a1 13)), .inl (cI, 6, .inl (fun _ => (0 : Int32)))), (((a1 14)), .inl (cI, 6, .inl (fun _ => (0 : Int32)))), (((a1 15)), .inl (cI, 6, .inl (fun _ => (0 : Int32)))), ((a1 16), .inr (0, [.int 0, .int 0, .int 1, .int 0, .int 0, .int 0, .ref ((a1 17)), .ref ((a1 18)), .ref ((a1 19)), .ref ((a1 20)), .ref ((a1 21)), .ref ((a1 22)), .ref ((a1 23))])), (((a1 17)), .inl (cI, 18, .inl (fun _ => (0 : Int32)))), (((a1 18)), .inl (cI, 6, .inl (fun _ => (0 : Int32)))), (((a1 19)), .inl (cI, 6, .inl (fun _ => (0 : Int32)))), (((a1 20)), .inl (cI, 6, .inl (fun _ => (0 : Int32)))), (((a1 21)), .inl (cI, 6, .inl (fun _ => (0 : Int32)))), (((a1 22)), .inl (cI, 6, .inl (fun _ => (0 : Int32)))), (((a1 23)), .inl (cI, 6, .inl (fun _ => (0 : Int32)))), ((a1 24), .inr (1, [.ref ((a1 25)), .int 0])), (((a1 25)), .inl (cI, 96, .inl (fun _ => (0 : Int32)))), ((a1 26), .inr (2, [.ref ((a1 27)), .ref ((a1 43)), .ref ((a1 35)), .ref ((a1 45)), .ref ((a1 46)), .int 0])), (((a1 27)), .inr (0, [.int 0, .int 0, .int 1, .int 0, .int 0, .int 0, .ref (((a1 28))), .ref (((a1 29))), .ref (((a1 30))), .ref (((a1 31))), .ref (((a1 32))), .ref (((a1 33))), .ref (((a1 34)))])), ((((a1 28))), .inl (cI, 18, .inl (fun _ => (0 : Int32)))), ((((a1 29))), .inl (cI, 6, .inl (fun _ => (0 : Int32)))), ((((a1 30))), .inl (cI, 6, .inl (fun _ => (0 : Int32)))), ((((a1 31))), .inl (cI, 6, .inl (fun _ => (0 : Int32)))), ((((a1 32))), .inl (cI, 6, .inl (fun _ => (0 : Int32)))), ((((a1 33))), .inl (cI, 6, .inl (fun _ => (0 : Int32)))), ((((a1 34))), .inl (cI, 6, .inl (fun _ => (0 : Int32)))), (((a1 35)), .inr (0, [.int 0, .int 0, .int 1, .int 0, .int 0, .int 0, .ref (((a1 36))), .ref (((a1 37))), .ref (((a1 38))), .ref (((a1 39))), .ref (((a1 40))), .ref (((a1 41))), .ref (((a1 42)))])), ((((a1 36))), .inl (cI, 18, .inl (fun _ => (0 : Int32)))), ((((a1 37))), .inl (cI, 6, .inl (fun _ => (0 : Int32)))), ((((a1 38))), .inl (cI, 6, .inl (fun _ => (0 : Int32)))), ((((a1 39))), .inl (cI, 6, .inl (fun _ => (0 : Int32)))), ((((a1 40))), .inl (cI, 6, .inl (fun _ => (0 : Int32)))), ((((a1 41))), .inl (cI, 6, .inl (fun _ => (0 : Int32)))), ((((a1 42))), .inl (cI, 6, .inl (fun _ => (0 : Int32)))), (((a1 43)), .inr (3, [.ref (((a1 44)))])), ((((a1 44))), .inl (cI, 448, .inl (fun _ => (0 : Int32)))), (((a1 45)), .inl (cI, 7, .inl (fun _ => (0 : Int32)))), (((a1 46)), .inl (cI, 8, .inl (fun _ => (0 : Int32)))), ((a1 47), .inl (cI, 16, .inl (fun _ => (0 : Int32)))), ((a1 48), .inl (cI, 7, .inl (fun _ => (0 : Int32)))), (q2, .inr (5, [.ref (a2 0), .ref (a2 1), .ref (a2 2), .ref (a2 3), .ref (a2 4), .ref (a2 5), .int 0, .ref (a2 6), .ref (a2 7), .ref (a2 8), .int 0, .int 0, .int 0, .ref (a2 9), .ref (a2 10), .ref (a2 11), .int 0, .int 0])), ((a2 0), .inl (cI, 47, .inl (upd (fun _ => (0 : Int32)) 2 1))), ((a2 1), .inl (cI, 47, .inl (fun _ => (0 : Int32)))), ((a2 2), .inl (cI, 47, .inl (fun _ => (0 : Int32)))), ((a2 3), .inl (cI, 47, .inl (fun _ => (0 : Int32)))), ((a2 4), .inl (cI, 6, .inl (fun _ => (0 : Int32)))), ((a2 5), .inl (cI, 6, .inl (fun _ => (0 : Int32)))), ((a2 6), .inl (cI, 96, .inl (fun _ => (0 : Int32)))), ((a2 7), .inl (cI, 16, .inl (fun _ => (0 : Int32)))), ((a2 8), .inl (cI, 7, .inl (fun _ => (0 : Int32)))), ((a2 9), .inl (cI, 3, .inl (fun _ => (0 : Int32)))), ((a2 10), .inl (cI, 6, .inl (fun _ => (0 : Int32)))), ((a2 11), .inl (cI, 6, .inl (fun _ => (0 : Int32))))]
abbrev z0A (q1 q2 : Nat) (a1 a2 : Nat → Nat) : List Nat := [q1, a1 0, a1 1, a1 2, a1 3, a1 4, a1 5, a1 6, a1 7, a1 8, a1 9, a1 10, a1 11, a1 12, a1 13, a1 14, a1 15, a1 16, a1 17, a1 18, a1 19, a1 20, a1 21, a1 22, a1 23, a1 24, a1 25, a1 26, a1 27, a1 28, a1 29, a1 30, a1 31, a1 32, a1 33, a1 34, a1 35, a1 36, a1 37, a1 38, a1 39, a1 40, a1 41, a1 42, a1 43, a1 44, a1 45, a1 46, a1 47, a1 48, q2, a2 0, a2 1, a2 2, a2 3, a2 4, a2 5, a2 6, a2 7, a2 8, a2 9, a2 10, a2 11]
theorem z0lo {G : va_G} {cI : ClassId} {adr : List Nat} {k v : Nat → Nat} {t u f b i : Nat} (h : i < 100) : (zmkE G cI adr k v t u f b).2.2 i = adr.getD i 0 := if_pos h
theorem z0eq (G : va_G) (cI : ClassId) (q1 q2 : Nat) (a1 a2 : Nat → Nat) (k v : Nat → Nat) (t u f b : Nat) : z0L cI q1 q2 a1 a2 = zws (zmkE G cI (z0A q1 q2 a1 a2) k v t u f b) z0w := by
  apply List.ext_getElem?
  intro j
  rcases Nat.lt_or_ge j 63 with h | h
  · rcases (show j = 0 ∨ j = 1 ∨ j = 2 ∨ j = 3 ∨ j = 4 ∨ j = 5 ∨ j = 6 ∨ j = 7 ∨ j = 8 ∨ j = 9 ∨ j = 10 ∨ j = 11 ∨ j = 12 ∨ j = 13 ∨ j = 14 ∨ j = 15 ∨ j = 16 ∨ j = 17 ∨ j = 18 ∨ j = 19 ∨ j = 20 ∨ j = 21 ∨ j = 22 ∨ j = 23 ∨ j = 24 ∨ j = 25 ∨ j = 26 ∨ j = 27 ∨ j = 28 ∨ j = 29 ∨ j = 30 ∨ j = 31 ∨ j = 32 ∨ j = 33 ∨ j = 34 ∨ j = 35 ∨ j = 36 ∨ j = 37 ∨ j = 38 ∨ j = 39 ∨ j = 40 ∨ j = 41 ∨ j = 42 ∨ j = 43 ∨ j = 44 ∨ j = 45 ∨ j = 46 ∨ j = 47 ∨ j = 48 ∨ j = 49 ∨ j = 50 ∨ j = 51 ∨ j = 52 ∨ j = 53 ∨ j = 54 ∨ j = 55 ∨ j = 56 ∨ j = 57 ∨ j = 58 ∨ j = 59 ∨ j = 60 ∨ j = 61 ∨ j = 62 by omega) with rfl | rfl | rfl | rfl | rfl | rfl | rfl | rfl | rfl | rfl | rfl | rfl | rfl | rfl | rfl | rfl | rfl | rfl | rfl | rfl | rfl | rfl | rfl | rfl | rfl | rfl | rfl | rfl | rfl | rfl | rfl | rfl | rfl | rfl | rfl | rfl | rfl | rfl | rfl | rfl | rfl | rfl | rfl | rfl | rfl | rfl | rfl | rfl | rfl | rfl | rfl | rfl | rfl | rfl | rfl | rfl | rfl | rfl | rfl | rfl | rfl | rfl | rfl
    · exact (zws_at (E := zmkE G cI (z0A q1 q2 a1 a2) k v t u f b) (σ := z0w) (i := 0) (d := .inr (4, [some 1, some 9, none, some 17, some 25, some 27, some 48, none, some 49])) rfl).symm
    · exact (zws_at (E := zmkE G cI (z0A q1 q2 a1 a2) k v t u f b) (σ := z0w) (i := 1) (d := .inr (0, [none, none, none, none, none, none, some 2, some 3, some 4, some 5, some 6, some 7, some 8])) rfl).symm
    · exact (zws_at (E := zmkE G cI (z0A q1 q2 a1 a2) k v t u f b) (σ := z0w) (i := 2) (d := .inl 18) rfl).symm
    · exact (zws_at (E := zmkE G cI (z0A q1 q2 a1 a2) k v t u f b) (σ := z0w) (i := 3) (d := .inl 6) rfl).symm
    · exact (zws_at (E := zmkE G cI (z0A q1 q2 a1 a2) k v t u f b) (σ := z0w) (i := 4) (d := .inl 6) rfl).symm
    · exact (zws_at (E := zmkE G cI (z0A q1 q2 a1 a2) k v t u f b) (σ := z0w) (i := 5) (d := .inl 6) rfl).symm
    · exact (zws_at (E := zmkE G cI (z0A q1 q2 a1 a2) k v t u f b) (σ := z0w) (i := 6) (d := .inl 6) rfl).symm
    · exact (zws_at (E := zmkE G cI (z0A q1 q2 a1 a2) k v t u f b) (σ := z0w) (i := 7) (d := .inl 6) rfl).symm
    · exact (zws_at (E := zmkE G cI (z0A q1 q2 a1 a2) k v t u f b) (σ := z0w) (i := 8) (d := .inl 6) rfl).symm
    · exact (zws_at (E := zmkE G cI (z0A q1 q2 a1 a2) k v t u f b) (σ := z0w) (i := 9) (d := .inr (0, [none, none, none, none, none, none, some 10, some 11, some 12, some 13, some 14, some 15, some 16])) rfl).symm
    · exact (zws_at (E := zmkE G cI (z0A q1 q2 a1 a2) k v t u f b) (σ := z0w) (i := 10) (d := .inl 18) rfl).symm
    · exact (zws_at (E := zmkE G cI (z0A q1 q2 a1 a2) k v t u f b) (σ := z0w) (i := 11) (d := .inl 6) rfl).symm
    · exact (zws_at (E := zmkE G cI (z0A q1 q2 a1 a2) k v t u f b) (σ := z0w) (i := 12) (d := .inl 6) rfl).symm
    · exact (zws_at (E := zmkE G cI (z0A q1 q2 a1 a2) k v t u f b) (σ := z0w) (i := 13) (d := .inl 6) rfl).symm
    · exact (zws_at (E := zmkE G cI (z0A q1 q2 a1 a2) k v t u f b) (σ := z0w) (i := 14) (d := .inl 6) rfl).symm
    · exact (zws_at (E := zmkE G cI (z0A q1 q2 a1 a2) k v t u f b) (σ := z0w) (i := 15) (d := .inl 6) rfl).symm
    · exact (zws_at (E := zmkE G cI (z0A q1 q2 a1 a2) k v t u f b) (σ := z0w) (i := 16) (d := .inl 6) rfl).symm
    · exact (zws_at (E := zmkE G cI (z0A q1 q2 a1 a2) k v t u f b) (σ := z0w) (i := 17) (d := .inr (0, [none, none, none, none, none, none, some 18, some 19, some 20, some 21, some 22, some 23, some 24])) rfl).symm
    · exact (zws_at (E := zmkE G cI (z0A q1 q2 a1 a2) k v t u f b) (σ := z0w) (i := 18) (d := .inl 18) rfl).symm
    · exact (zws_at (E := zmkE G cI (z0A q1 q2 a1 a2) k v t u f b) (σ := z0w) (i := 19) (d := .inl 6) rfl).symm
    · exact (zws_at (E := zmkE G cI (z0A q1 q2 a1 a2) k v t u f b) (σ := z0w) (i := 20) (d := .inl 6) rfl).symm
    · exact (zws_at (E := zmkE G cI (z0A q1 q2 a1 a2) k v t u f b) (σ := z0w) (i := 21) (d := .inl 6) rfl).symm
    · exact (zws_at (E := zmkE G cI (z0A q1 q2 a1 a2) k v t u f b) (σ := z0w) (i := 22) (d := .inl 6) rfl).symm
    · exact (zws_at (E := zmkE G cI (z0A q1 q2 a1 a2) k v t u f b) (σ := z0w) (i := 23) (d := .inl 6) rfl).symm
    · exact (zws_at (E := zmkE G cI (z0A q1 q2 a1 a2) k v t u f b) (σ := z0w) (i := 24) (d := .inl 6) rfl).symm
    · exact (zws_at (E := zmkE G cI (z0A q1 q2 a1 a2) k v t u f b) (σ := z0w) (i := 25) (d := .inr (1, [some 26, none])) rfl).symm
    · exact (zws_at (E := zmkE G cI (z0A q1 q2 a1 a2) k v t u f b) (σ := z0w) (i := 26) (d := .inl 96) rfl).symm
    · exact (zws_at (E := zmkE G cI (z0A q1 q2 a1 a2) k v t u f b) (σ := z0w) (i := 27) (d := .inr (2, [some 28, some 44, some 36, some 46, some 47, none])) rfl).symm
    · exact (zws_at (E := zmkE G cI (z0A q1 q2 a1 a2) k v t u f b) (σ := z0w) (i := 28) (d := .inr (0, [none, none, none, none, none, none, some 29, some 30, some 31, some 32, some 33, some 34, some 35])) rfl).symm
    · exact (zws_at (E := zmkE G cI (z0A q1 q2 a1 a2) k v t u f b) (σ := z0w) (i := 29) (d := .inl 18) rfl).symm
    · exact (zws_at (E := zmkE G cI (z0A q1 q2 a1 a2) k v t u f b) (σ := z0w) (i := 30) (d := .inl 6) rfl).symm
    · exact (zws_at (E := zmkE G cI (z0A q1 q2 a1 a2) k v t u f b) (σ := z0w) (i := 31) (d := .inl 6) rfl).symm
    · exact (zws_at (E := zmkE G cI (z0A q1 q2 a1 a2) k v t u f b) (σ := z0w) (i := 32) (d := .inl 6) rfl).symm
    · exact (zws_at (E := zmkE G cI (z0A q1 q2 a1 a2) k v t u f b) (σ := z0w) (i := 33) (d := .inl 6) rfl).symm
    · exact (zws_at (E := zmkE G cI (z0A q1 q2 a1 a2) k v t u f b) (σ := z0w) (i := 34) (d := .inl 6) rfl).symm
    · exact (zws_at (E := zmkE G cI (z0A q1 q2 a1 a2) k v t u f b) (σ := z0w) (i := 35) (d := .inl 6) rfl).symm
    · exact (zws_at (E := zmkE G cI (z0A q1 q2 a1 a2) k v t u f b) (σ := z0w) (i := 36) (d := .inr (0, [none, none, none, none, none, none, some 37, some 38, some 39, some 40, some 41, some 42, some 43])) rfl).symm
    · exact (zws_at (E := zmkE G cI (z0A q1 q2 a1 a2) k v t u f b) (σ := z0w) (i := 37) (d := .inl 18) rfl).symm
    · exact (zws_at (E := zmkE G cI (z0A q1 q2 a1 a2) k v t u f b) (σ := z0w) (i := 38) (d := .inl 6) rfl).symm
    · exact (zws_at (E := zmkE G cI (z0A q1 q2 a1 a2) k v t u f b) (σ := z0w) (i := 39) (d := .inl 6) rfl).symm
    · exact (zws_at (E := zmkE G cI (z0A q1 q2 a1 a2) k v t u f b) (σ := z0w) (i := 40) (d := .inl 6) rfl).symm
    · exact (zws_at (E := zmkE G cI (z0A q1 q2 a1 a2) k v t u f b) (σ := z0w) (i := 41) (d := .inl 6) rfl).symm
    · exact (zws_at (E := zmkE G cI (z0A q1 q2 a1 a2) k v t u f b) (σ := z0w) (i := 42) (d := .inl 6) rfl).symm
    · exact (zws_at (E := zmkE G cI (z0A q1 q2 a1 a2) k v t u f b) (σ := z0w) (i := 43) (d := .inl 6) rfl).symm
    · exact (zws_at (E := zmkE G cI (z0A q1 q2 a1 a2) k v t u f b) (σ := z0w) (i := 44) (d := .inr (3, [some 45])) rfl).symm
    · exact (zws_at (E := zmkE G cI (z0A q1 q2 a1 a2) k v t u f b) (σ := z0w) (i := 45) (d := .inl 448) rfl).symm
    · exact (zws_at (E := zmkE G cI (z0A q1 q2 a1 a2) k v t u f b) (σ := z0w) (i := 46) (d := .inl 7) rfl).symm
    · exact (zws_at (E := zmkE G cI (z0A q1 q2 a1 a2) k v t u f b) (σ := z0w) (i := 47) (d := .inl 8) rfl).symm
    · exact (zws_at (E := zmkE G cI (z0A q1 q2 a1 a2) k v t u f b) (σ := z0w) (i := 48) (d := .inl 16) rfl).symm
    · exact (zws_at (E := zmkE G cI (z0A q1 q2 a1 a2) k v t u f b) (σ := z0w) (i := 49) (d := .inl 7) rfl).symm
    · exact (zws_at (E := zmkE G cI (z0A q1 q2 a1 a2) k v t u f b) (σ := z0w) (i := 50) (d := .inr (5, [some 51, some 52, some 53, some 54, some 55, some 56, none, some 57, some 58, some 59, none, none, none, some 60, some 61, some 62, none, none])) rfl).symm
    · exact (zws_at (E := zmkE G cI (z0A q1 q2 a1 a2) k v t u f b) (σ := z0w) (i := 51) (d := .inl 47) rfl).symm
    · exact (zws_at (E := zmkE G cI (z0A q1 q2 a1 a2) k v t u f b) (σ := z0w) (i := 52) (d := .inl 47) rfl).symm
    · exact (zws_at (E := zmkE G cI (z0A q1 q2 a1 a2) k v t u f b) (σ := z0w) (i := 53) (d := .inl 47) rfl).symm
    · exact (zws_at (E := zmkE G cI (z0A q1 q2 a1 a2) k v t u f b) (σ := z0w) (i := 54) (d := .inl 47) rfl).symm
    · exact (zws_at (E := zmkE G cI (z0A q1 q2 a1 a2) k v t u f b) (σ := z0w) (i := 55) (d := .inl 6) rfl).symm
    · exact (zws_at (E := zmkE G cI (z0A q1 q2 a1 a2) k v t u f b) (σ := z0w) (i := 56) (d := .inl 6) rfl).symm
    · exact (zws_at (E := zmkE G cI (z0A q1 q2 a1 a2) k v t u f b) (σ := z0w) (i := 57) (d := .inl 96) rfl).symm
    · exact (zws_at (E := zmkE G cI (z0A q1 q2 a1 a2) k v t u f b) (σ := z0w) (i := 58) (d := .inl 16) rfl).symm
    · exact (zws_at (E := zmkE G cI (z0A q1 q2 a1 a2) k v t u f b) (σ := z0w) (i := 59) (d := .inl 7) rfl).symm
    · exact (zws_at (E := zmkE G cI (z0A q1 q2 a1 a2) k v t u f b) (σ := z0w) (i := 60) (d := .inl 3) rfl).symm
    · exact (zws_at (E := zmkE G cI (z0A q1 q2 a1 a2) k v t u f b) (σ := z0w) (i := 61) (d := .inl 6) rfl).symm
    · exact (zws_at (E := zmkE G cI (z0A q1 q2 a1 a2) k v t u f b) (σ := z0w) (i := 62) (d := .inl 6) rfl).symm
  · rw [List.getElem?_eq_none (show (z0L cI q1 q2 a1 a2).length ≤ j from h), List.getElem?_eq_none (by simp only [zws, List.length_mapIdx]; rw [zLY_len]; exact h)]
