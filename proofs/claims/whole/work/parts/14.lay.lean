/-! the layout, a row a cell (written by a program) -/
theorem kd_0 : sx_kd 0 = 3 := by decide
theorem fr_0_0 : sx_fr 0 0 = 1 := by decide
theorem fr_0_1 : sx_fr 0 1 = 7 := by decide
theorem fr_0_2 : sx_fr 0 2 = 13 := by decide
theorem fr_0_3 : sx_fr 0 3 = 19 := by decide
theorem fr_0_4 : sx_fr 0 4 = 25 := by decide
theorem fr_0_5 : sx_fr 0 5 = 26 := by decide
theorem fr_0_6 : sx_fr 0 6 = 27 := by decide
theorem fr_0_7 : sx_fr 0 7 = 29 := by decide
theorem fr_0_8 : sx_fr 0 8 = 38 := by decide
theorem kd_1 : sx_kd 1 = 0 := by decide
theorem fr_1_0 : sx_fr 1 0 = 2 := by decide
theorem fr_1_1 : sx_fr 1 1 = 3 := by decide
theorem fr_1_2 : sx_fr 1 2 = 4 := by decide
theorem fr_1_3 : sx_fr 1 3 = 5 := by decide
theorem fr_1_4 : sx_fr 1 4 = 6 := by decide
theorem kd_2 : sx_kd 2 = 5 := by decide
theorem an_2 {G : sx_G} : sx_an G 2 = 8 := rfl
theorem rd_2 {G : sx_G} {A : sx_A} {j : Nat} : sx_rd G A 2 j = A 2 j := rfl
theorem kd_3 : sx_kd 3 = 5 := by decide
theorem an_3 {G : sx_G} : sx_an G 3 = 8 := rfl
theorem rd_3 {G : sx_G} {A : sx_A} {j : Nat} : sx_rd G A 3 j = A 3 j := rfl
theorem kd_4 : sx_kd 4 = 5 := by decide
theorem an_4 {G : sx_G} : sx_an G 4 = 8 := rfl
theorem rd_4 {G : sx_G} {A : sx_A} {j : Nat} : sx_rd G A 4 j = A 4 j := rfl
theorem kd_5 : sx_kd 5 = 5 := by decide
theorem an_5 {G : sx_G} : sx_an G 5 = 8 := rfl
theorem rd_5 {G : sx_G} {A : sx_A} {j : Nat} : sx_rd G A 5 j = A 5 j := rfl
theorem kd_6 : sx_kd 6 = 5 := by decide
theorem an_6 {G : sx_G} : sx_an G 6 = 2 := rfl
theorem rd_6 {G : sx_G} {A : sx_A} {j : Nat} : sx_rd G A 6 j = A 6 j := rfl
theorem kd_7 : sx_kd 7 = 0 := by decide
theorem fr_7_0 : sx_fr 7 0 = 8 := by decide
theorem fr_7_1 : sx_fr 7 1 = 9 := by decide
theorem fr_7_2 : sx_fr 7 2 = 10 := by decide
theorem fr_7_3 : sx_fr 7 3 = 11 := by decide
theorem fr_7_4 : sx_fr 7 4 = 12 := by decide
theorem kd_8 : sx_kd 8 = 5 := by decide
theorem an_8 {G : sx_G} : sx_an G 8 = 8 := rfl
theorem rd_8 {G : sx_G} {A : sx_A} {j : Nat} : sx_rd G A 8 j = A 8 j := rfl
theorem kd_9 : sx_kd 9 = 5 := by decide
theorem an_9 {G : sx_G} : sx_an G 9 = 8 := rfl
theorem rd_9 {G : sx_G} {A : sx_A} {j : Nat} : sx_rd G A 9 j = A 9 j := rfl
theorem kd_10 : sx_kd 10 = 5 := by decide
theorem an_10 {G : sx_G} : sx_an G 10 = 8 := rfl
theorem rd_10 {G : sx_G} {A : sx_A} {j : Nat} : sx_rd G A 10 j = A 10 j := rfl
theorem kd_11 : sx_kd 11 = 5 := by decide
theorem an_11 {G : sx_G} : sx_an G 11 = 8 := rfl
theorem rd_11 {G : sx_G} {A : sx_A} {j : Nat} : sx_rd G A 11 j = A 11 j := rfl
theorem kd_12 : sx_kd 12 = 5 := by decide
theorem an_12 {G : sx_G} : sx_an G 12 = 2 := rfl
theorem rd_12 {G : sx_G} {A : sx_A} {j : Nat} : sx_rd G A 12 j = A 12 j := rfl
theorem kd_13 : sx_kd 13 = 0 := by decide
theorem fr_13_0 : sx_fr 13 0 = 14 := by decide
theorem fr_13_1 : sx_fr 13 1 = 15 := by decide
theorem fr_13_2 : sx_fr 13 2 = 16 := by decide
theorem fr_13_3 : sx_fr 13 3 = 17 := by decide
theorem fr_13_4 : sx_fr 13 4 = 18 := by decide
theorem kd_14 : sx_kd 14 = 5 := by decide
theorem an_14 {G : sx_G} : sx_an G 14 = 8 := rfl
theorem rd_14 {G : sx_G} {A : sx_A} {j : Nat} : sx_rd G A 14 j = A 14 j := rfl
theorem kd_15 : sx_kd 15 = 5 := by decide
theorem an_15 {G : sx_G} : sx_an G 15 = 8 := rfl
theorem rd_15 {G : sx_G} {A : sx_A} {j : Nat} : sx_rd G A 15 j = A 15 j := rfl
theorem kd_16 : sx_kd 16 = 5 := by decide
theorem an_16 {G : sx_G} : sx_an G 16 = 8 := rfl
theorem rd_16 {G : sx_G} {A : sx_A} {j : Nat} : sx_rd G A 16 j = A 16 j := rfl
theorem kd_17 : sx_kd 17 = 5 := by decide
theorem an_17 {G : sx_G} : sx_an G 17 = 8 := rfl
theorem rd_17 {G : sx_G} {A : sx_A} {j : Nat} : sx_rd G A 17 j = A 17 j := rfl
theorem kd_18 : sx_kd 18 = 5 := by decide
theorem an_18 {G : sx_G} : sx_an G 18 = 2 := rfl
theorem rd_18 {G : sx_G} {A : sx_A} {j : Nat} : sx_rd G A 18 j = A 18 j := rfl
theorem kd_19 : sx_kd 19 = 0 := by decide
theorem fr_19_0 : sx_fr 19 0 = 20 := by decide
theorem fr_19_1 : sx_fr 19 1 = 21 := by decide
theorem fr_19_2 : sx_fr 19 2 = 22 := by decide
theorem fr_19_3 : sx_fr 19 3 = 23 := by decide
theorem fr_19_4 : sx_fr 19 4 = 24 := by decide
theorem kd_20 : sx_kd 20 = 5 := by decide
theorem an_20 {G : sx_G} : sx_an G 20 = 8 := rfl
theorem rd_20 {G : sx_G} {A : sx_A} {j : Nat} : sx_rd G A 20 j = A 20 j := rfl
theorem kd_21 : sx_kd 21 = 5 := by decide
theorem an_21 {G : sx_G} : sx_an G 21 = 8 := rfl
theorem rd_21 {G : sx_G} {A : sx_A} {j : Nat} : sx_rd G A 21 j = A 21 j := rfl
theorem kd_22 : sx_kd 22 = 5 := by decide
theorem an_22 {G : sx_G} : sx_an G 22 = 8 := rfl
theorem rd_22 {G : sx_G} {A : sx_A} {j : Nat} : sx_rd G A 22 j = A 22 j := rfl
theorem kd_23 : sx_kd 23 = 5 := by decide
theorem an_23 {G : sx_G} : sx_an G 23 = 8 := rfl
theorem rd_23 {G : sx_G} {A : sx_A} {j : Nat} : sx_rd G A 23 j = A 23 j := rfl
theorem kd_24 : sx_kd 24 = 5 := by decide
theorem an_24 {G : sx_G} : sx_an G 24 = 2 := rfl
theorem rd_24 {G : sx_G} {A : sx_A} {j : Nat} : sx_rd G A 24 j = A 24 j := rfl
theorem kd_25 : sx_kd 25 = 5 := by decide
theorem an_25 {G : sx_G} : sx_an G 25 = 8 := rfl
theorem rd_25 {G : sx_G} {A : sx_A} {j : Nat} : sx_rd G A 25 j = A 25 j := rfl
theorem kd_26 : sx_kd 26 = 5 := by decide
theorem an_26 {G : sx_G} : sx_an G 26 = 40 := rfl
theorem rd_26 {G : sx_G} {A : sx_A} {j : Nat} : sx_rd G A 26 j = A 26 j := rfl
theorem kd_27 : sx_kd 27 = 2 := by decide
theorem fr_27_0 : sx_fr 27 0 = 28 := by decide
theorem kd_28 : sx_kd 28 = 5 := by decide
theorem an_28 {G : sx_G} : sx_an G 28 = 120 := rfl
theorem rd_28 {G : sx_G} {A : sx_A} {j : Nat} : sx_rd G A 28 j = A 28 j := rfl
theorem kd_29 : sx_kd 29 = 7 := by decide
theorem an_29 {G : sx_G} : sx_an G 29 = 4 := rfl
theorem kd_30 : sx_kd 30 = 1 := by decide
theorem fr_30_0 : sx_fr 30 0 = 31 := by decide
theorem kd_31 : sx_kd 31 = 6 := by decide
theorem an_31 {G : sx_G} : sx_an G 31 = 40 := rfl
theorem kd_32 : sx_kd 32 = 1 := by decide
theorem fr_32_0 : sx_fr 32 0 = 33 := by decide
theorem kd_33 : sx_kd 33 = 6 := by decide
theorem an_33 {G : sx_G} : sx_an G 33 = 40 := rfl
theorem kd_34 : sx_kd 34 = 1 := by decide
theorem fr_34_0 : sx_fr 34 0 = 35 := by decide
theorem kd_35 : sx_kd 35 = 6 := by decide
theorem an_35 {G : sx_G} : sx_an G 35 = 40 := rfl
theorem kd_36 : sx_kd 36 = 1 := by decide
theorem fr_36_0 : sx_fr 36 0 = 37 := by decide
theorem kd_37 : sx_kd 37 = 6 := by decide
theorem an_37 {G : sx_G} : sx_an G 37 = 40 := rfl
theorem kd_38 : sx_kd 38 = 5 := by decide
theorem an_38 {G : sx_G} : sx_an G 38 = 7 := rfl
theorem rd_38 {G : sx_G} {A : sx_A} {j : Nat} : sx_rd G A 38 j = A 38 j := rfl
theorem kd_39 : sx_kd 39 = 4 := by decide
theorem fr_39_0 : sx_fr 39 0 = 40 := by decide
theorem fr_39_1 : sx_fr 39 1 = 41 := by decide
theorem fr_39_2 : sx_fr 39 2 = 42 := by decide
theorem fr_39_3 : sx_fr 39 3 = 43 := by decide
theorem fr_39_4 : sx_fr 39 4 = 44 := by decide
theorem fr_39_6 : sx_fr 39 6 = 45 := by decide
theorem fr_39_12 : sx_fr 39 12 = 46 := by decide
theorem fr_39_13 : sx_fr 39 13 = 47 := by decide
theorem fr_39_14 : sx_fr 39 14 = 48 := by decide
theorem fr_39_15 : sx_fr 39 15 = 49 := by decide
theorem kd_40 : sx_kd 40 = 5 := by decide
theorem an_40 {G : sx_G} : sx_an G 40 = 37 := rfl
theorem rd_40 {G : sx_G} {A : sx_A} {j : Nat} : sx_rd G A 40 j = A 40 j := rfl
theorem kd_41 : sx_kd 41 = 5 := by decide
theorem an_41 {G : sx_G} : sx_an G 41 = 37 := rfl
theorem rd_41 {G : sx_G} {A : sx_A} {j : Nat} : sx_rd G A 41 j = A 41 j := rfl
theorem kd_42 : sx_kd 42 = 5 := by decide
theorem an_42 {G : sx_G} : sx_an G 42 = 37 := rfl
theorem rd_42 {G : sx_G} {A : sx_A} {j : Nat} : sx_rd G A 42 j = A 42 j := rfl
theorem kd_43 : sx_kd 43 = 5 := by decide
theorem an_43 {G : sx_G} : sx_an G 43 = 37 := rfl
theorem rd_43 {G : sx_G} {A : sx_A} {j : Nat} : sx_rd G A 43 j = A 43 j := rfl
theorem kd_44 : sx_kd 44 = 5 := by decide
theorem an_44 {G : sx_G} : sx_an G 44 = 7 := rfl
theorem rd_44 {G : sx_G} {A : sx_A} {j : Nat} : sx_rd G A 44 j = A 44 j := rfl
theorem kd_45 : sx_kd 45 = 5 := by decide
theorem an_45 {G : sx_G} : sx_an G 45 = 120 := rfl
theorem rd_45 {G : sx_G} {A : sx_A} {j : Nat} : sx_rd G A 45 j = A 45 j := rfl
theorem kd_46 : sx_kd 46 = 5 := by decide
theorem an_46 {G : sx_G} : sx_an G 46 = 4 := rfl
theorem rd_46 {G : sx_G} {A : sx_A} {j : Nat} : sx_rd G A 46 j = A 46 j := rfl
theorem kd_47 : sx_kd 47 = 5 := by decide
theorem an_47 {G : sx_G} : sx_an G 47 = 4 := rfl
theorem rd_47 {G : sx_G} {A : sx_A} {j : Nat} : sx_rd G A 47 j = A 47 j := rfl
theorem kd_48 : sx_kd 48 = 6 := by decide
theorem an_48 {G : sx_G} : sx_an G 48 = 160 := rfl
theorem kd_49 : sx_kd 49 = 6 := by decide
theorem an_49 {G : sx_G} : sx_an G 49 = 40 := rfl
theorem kd_60 : sx_kd 60 = 8 := by decide
theorem kd_62 : sx_kd 62 = 8 := by decide
theorem an_60 {G : sx_G} : sx_an G 60 = G.1 := rfl
theorem an_62 {G : sx_G} : sx_an G 62 = 6 := rfl
theorem rd_60 {G : sx_G} {A : sx_A} {j : Nat} : sx_rd G A 60 j = G.2 j := rfl
theorem rd_62 {G : sx_G} {A : sx_A} {j : Nat} : sx_rd G A 62 j = sx_kab.getD j 0 := rfl
def sx_isB (b : Nat) : Prop := b = 1 ∨ b = 7 ∨ b = 13 ∨ b = 19
theorem kdB {b : Nat} (h : sx_isB b) : sx_kd b = 0 := by rcases h with rfl | rfl | rfl | rfl <;> rfl
theorem kdB1 {b : Nat} (h : sx_isB b) : sx_kd (b + 1) = 5 := by rcases h with rfl | rfl | rfl | rfl <;> rfl
theorem frB1 {b : Nat} (h : sx_isB b) : sx_fr b 0 = b + 1 := by rcases h with rfl | rfl | rfl | rfl <;> rfl
theorem anB1 {b : Nat} (h : sx_isB b) {G : sx_G} : sx_an G (b + 1) = 8 := by rcases h with rfl | rfl | rfl | rfl <;> rfl
theorem rdB1 {b : Nat} (h : sx_isB b) {G : sx_G} {A : sx_A} {j : Nat} : sx_rd G A (b + 1) j = A (b + 1) j := by rcases h with rfl | rfl | rfl | rfl <;> rfl
theorem kdB2 {b : Nat} (h : sx_isB b) : sx_kd (b + 2) = 5 := by rcases h with rfl | rfl | rfl | rfl <;> rfl
theorem frB2 {b : Nat} (h : sx_isB b) : sx_fr b 1 = b + 2 := by rcases h with rfl | rfl | rfl | rfl <;> rfl
theorem anB2 {b : Nat} (h : sx_isB b) {G : sx_G} : sx_an G (b + 2) = 8 := by rcases h with rfl | rfl | rfl | rfl <;> rfl
theorem rdB2 {b : Nat} (h : sx_isB b) {G : sx_G} {A : sx_A} {j : Nat} : sx_rd G A (b + 2) j = A (b + 2) j := by rcases h with rfl | rfl | rfl | rfl <;> rfl
theorem kdB3 {b : Nat} (h : sx_isB b) : sx_kd (b + 3) = 5 := by rcases h with rfl | rfl | rfl | rfl <;> rfl
theorem frB3 {b : Nat} (h : sx_isB b) : sx_fr b 2 = b + 3 := by rcases h with rfl | rfl | rfl | rfl <;> rfl
theorem anB3 {b : Nat} (h : sx_isB b) {G : sx_G} : sx_an G (b + 3) = 8 := by rcases h with rfl | rfl | rfl | rfl <;> rfl
theorem rdB3 {b : Nat} (h : sx_isB b) {G : sx_G} {A : sx_A} {j : Nat} : sx_rd G A (b + 3) j = A (b + 3) j := by rcases h with rfl | rfl | rfl | rfl <;> rfl
theorem kdB4 {b : Nat} (h : sx_isB b) : sx_kd (b + 4) = 5 := by rcases h with rfl | rfl | rfl | rfl <;> rfl
theorem frB4 {b : Nat} (h : sx_isB b) : sx_fr b 3 = b + 4 := by rcases h with rfl | rfl | rfl | rfl <;> rfl
theorem anB4 {b : Nat} (h : sx_isB b) {G : sx_G} : sx_an G (b + 4) = 8 := by rcases h with rfl | rfl | rfl | rfl <;> rfl
theorem rdB4 {b : Nat} (h : sx_isB b) {G : sx_G} {A : sx_A} {j : Nat} : sx_rd G A (b + 4) j = A (b + 4) j := by rcases h with rfl | rfl | rfl | rfl <;> rfl
theorem kdB5 {b : Nat} (h : sx_isB b) : sx_kd (b + 5) = 5 := by rcases h with rfl | rfl | rfl | rfl <;> rfl
theorem frB5 {b : Nat} (h : sx_isB b) : sx_fr b 4 = b + 5 := by rcases h with rfl | rfl | rfl | rfl <;> rfl
theorem anB5 {b : Nat} (h : sx_isB b) {G : sx_G} : sx_an G (b + 5) = 2 := by rcases h with rfl | rfl | rfl | rfl <;> rfl
theorem rdB5 {b : Nat} (h : sx_isB b) {G : sx_G} {A : sx_A} {j : Nat} : sx_rd G A (b + 5) j = A (b + 5) j := by rcases h with rfl | rfl | rfl | rfl <;> rfl
def sx_isS (b : Nat) : Prop := b = 30 ∨ b = 32 ∨ b = 34 ∨ b = 36
theorem kdS {b : Nat} (h : sx_isS b) : sx_kd b = 1 := by rcases h with rfl | rfl | rfl | rfl <;> rfl
theorem kdS1 {b : Nat} (h : sx_isS b) : sx_kd (b + 1) = 6 := by rcases h with rfl | rfl | rfl | rfl <;> rfl
theorem frS {b : Nat} (h : sx_isS b) : sx_fr b 0 = b + 1 := by rcases h with rfl | rfl | rfl | rfl <;> rfl
theorem anS {b : Nat} (h : sx_isS b) {G : sx_G} : sx_an G (b + 1) = 40 := by rcases h with rfl | rfl | rfl | rfl <;> rfl
theorem frS29 {j : Nat} (h : j < 4) : sx_isS (sx_fr 29 j) ∧ sx_fr 29 j = 30 + 2 * j := by
  rcases (show j = 0 ∨ j = 1 ∨ j = 2 ∨ j = 3 by omega) with rfl | rfl | rfl | rfl <;> exact ⟨by unfold sx_isS; decide, by decide⟩
theorem up_s {α : Type} {f : Nat → α} {k : Nat} {v : α} : va_up f k v k = v := if_pos rfl
theorem up_n {α : Type} {f : Nat → α} {k j : Nat} {v : α} (h : ¬ j = k) : va_up f k v j = f j := if_neg h
theorem up_id {α : Type} {f : Nat → α} {k : Nat} : va_up f k (f k) = f := by
  funext j
  unfold va_up
  split
  · rename_i h; rw [h]
  · rfl
theorem up_up {α : Type} {f : Nat → α} {k : Nat} {v w : α} : va_up (va_up f k v) k w = va_up f k w := by
  funext j
  unfold va_up
  split <;> rfl
theorem ud_s {f : Nat → Int32} {k : Nat} {v : Int32} : upd f k v k = v := if_pos rfl
theorem ud_n {f : Nat → Int32} {k j : Nat} {v : Int32} (h : ¬ j = k) : upd f k v j = f j := if_neg h
theorem ul_s {f : Nat → Int64} {k : Nat} {v : Int64} : vp_updL f k v k = v := if_pos rfl
theorem ul_n {f : Nat → Int64} {k j : Nat} {v : Int64} (h : ¬ j = k) : vp_updL f k v j = f j := if_neg h
theorem in_nI {p n : Nat} (h : p < n) (hn : n < 2 ^ 31) : ¬ (nI p < 0 ∨ n ≤ (nI p).toNatClampNeg) := nI_in h hn
theorem nb_0_1 {b : Nat} : (b = b + 1) = False := eq_false (by omega)
theorem nb_0_2 {b : Nat} : (b = b + 2) = False := eq_false (by omega)
theorem nb_0_3 {b : Nat} : (b = b + 3) = False := eq_false (by omega)
theorem nb_0_4 {b : Nat} : (b = b + 4) = False := eq_false (by omega)
theorem nb_0_5 {b : Nat} : (b = b + 5) = False := eq_false (by omega)
theorem nb_1_0 {b : Nat} : (b + 1 = b) = False := eq_false (by omega)
theorem nb_1_2 {b : Nat} : (b + 1 = b + 2) = False := eq_false (by omega)
theorem nb_1_3 {b : Nat} : (b + 1 = b + 3) = False := eq_false (by omega)
theorem nb_1_4 {b : Nat} : (b + 1 = b + 4) = False := eq_false (by omega)
theorem nb_1_5 {b : Nat} : (b + 1 = b + 5) = False := eq_false (by omega)
theorem nb_2_0 {b : Nat} : (b + 2 = b) = False := eq_false (by omega)
theorem nb_2_1 {b : Nat} : (b + 2 = b + 1) = False := eq_false (by omega)
theorem nb_2_3 {b : Nat} : (b + 2 = b + 3) = False := eq_false (by omega)
theorem nb_2_4 {b : Nat} : (b + 2 = b + 4) = False := eq_false (by omega)
theorem nb_2_5 {b : Nat} : (b + 2 = b + 5) = False := eq_false (by omega)
theorem nb_3_0 {b : Nat} : (b + 3 = b) = False := eq_false (by omega)
theorem nb_3_1 {b : Nat} : (b + 3 = b + 1) = False := eq_false (by omega)
theorem nb_3_2 {b : Nat} : (b + 3 = b + 2) = False := eq_false (by omega)
theorem nb_3_4 {b : Nat} : (b + 3 = b + 4) = False := eq_false (by omega)
theorem nb_3_5 {b : Nat} : (b + 3 = b + 5) = False := eq_false (by omega)
theorem nb_4_0 {b : Nat} : (b + 4 = b) = False := eq_false (by omega)
theorem nb_4_1 {b : Nat} : (b + 4 = b + 1) = False := eq_false (by omega)
theorem nb_4_2 {b : Nat} : (b + 4 = b + 2) = False := eq_false (by omega)
theorem nb_4_3 {b : Nat} : (b + 4 = b + 3) = False := eq_false (by omega)
theorem nb_4_5 {b : Nat} : (b + 4 = b + 5) = False := eq_false (by omega)
theorem nb_5_0 {b : Nat} : (b + 5 = b) = False := eq_false (by omega)
theorem nb_5_1 {b : Nat} : (b + 5 = b + 1) = False := eq_false (by omega)
theorem nb_5_2 {b : Nat} : (b + 5 = b + 2) = False := eq_false (by omega)
theorem nb_5_3 {b : Nat} : (b + 5 = b + 3) = False := eq_false (by omega)
theorem nb_5_4 {b : Nat} : (b + 5 = b + 4) = False := eq_false (by omega)
def sx_bo (b o : Nat) : Prop := (sx_isB b ∧ sx_isB o) ∧ b ≠ o
theorem bo_0_0 {b o : Nat} (h : sx_bo b o) : (b = o) = False := eq_false (by obtain ⟨⟨h1, h2⟩, h3⟩ := h; unfold sx_isB at h1 h2; omega)
theorem ob_0_0 {b o : Nat} (h : sx_bo b o) : (o = b) = False := eq_false (by obtain ⟨⟨h1, h2⟩, h3⟩ := h; unfold sx_isB at h1 h2; omega)
theorem bo_0_1 {b o : Nat} (h : sx_bo b o) : (b = o + 1) = False := eq_false (by obtain ⟨⟨h1, h2⟩, h3⟩ := h; unfold sx_isB at h1 h2; omega)
theorem ob_0_1 {b o : Nat} (h : sx_bo b o) : (o + 1 = b) = False := eq_false (by obtain ⟨⟨h1, h2⟩, h3⟩ := h; unfold sx_isB at h1 h2; omega)
theorem bo_0_2 {b o : Nat} (h : sx_bo b o) : (b = o + 2) = False := eq_false (by obtain ⟨⟨h1, h2⟩, h3⟩ := h; unfold sx_isB at h1 h2; omega)
theorem ob_0_2 {b o : Nat} (h : sx_bo b o) : (o + 2 = b) = False := eq_false (by obtain ⟨⟨h1, h2⟩, h3⟩ := h; unfold sx_isB at h1 h2; omega)
theorem bo_0_3 {b o : Nat} (h : sx_bo b o) : (b = o + 3) = False := eq_false (by obtain ⟨⟨h1, h2⟩, h3⟩ := h; unfold sx_isB at h1 h2; omega)
theorem ob_0_3 {b o : Nat} (h : sx_bo b o) : (o + 3 = b) = False := eq_false (by obtain ⟨⟨h1, h2⟩, h3⟩ := h; unfold sx_isB at h1 h2; omega)
theorem bo_0_4 {b o : Nat} (h : sx_bo b o) : (b = o + 4) = False := eq_false (by obtain ⟨⟨h1, h2⟩, h3⟩ := h; unfold sx_isB at h1 h2; omega)
theorem ob_0_4 {b o : Nat} (h : sx_bo b o) : (o + 4 = b) = False := eq_false (by obtain ⟨⟨h1, h2⟩, h3⟩ := h; unfold sx_isB at h1 h2; omega)
theorem bo_0_5 {b o : Nat} (h : sx_bo b o) : (b = o + 5) = False := eq_false (by obtain ⟨⟨h1, h2⟩, h3⟩ := h; unfold sx_isB at h1 h2; omega)
theorem ob_0_5 {b o : Nat} (h : sx_bo b o) : (o + 5 = b) = False := eq_false (by obtain ⟨⟨h1, h2⟩, h3⟩ := h; unfold sx_isB at h1 h2; omega)
theorem bo_1_0 {b o : Nat} (h : sx_bo b o) : (b + 1 = o) = False := eq_false (by obtain ⟨⟨h1, h2⟩, h3⟩ := h; unfold sx_isB at h1 h2; omega)
theorem ob_1_0 {b o : Nat} (h : sx_bo b o) : (o = b + 1) = False := eq_false (by obtain ⟨⟨h1, h2⟩, h3⟩ := h; unfold sx_isB at h1 h2; omega)
theorem bo_1_1 {b o : Nat} (h : sx_bo b o) : (b + 1 = o + 1) = False := eq_false (by obtain ⟨⟨h1, h2⟩, h3⟩ := h; unfold sx_isB at h1 h2; omega)
theorem ob_1_1 {b o : Nat} (h : sx_bo b o) : (o + 1 = b + 1) = False := eq_false (by obtain ⟨⟨h1, h2⟩, h3⟩ := h; unfold sx_isB at h1 h2; omega)
theorem bo_1_2 {b o : Nat} (h : sx_bo b o) : (b + 1 = o + 2) = False := eq_false (by obtain ⟨⟨h1, h2⟩, h3⟩ := h; unfold sx_isB at h1 h2; omega)
theorem ob_1_2 {b o : Nat} (h : sx_bo b o) : (o + 2 = b + 1) = False := eq_false (by obtain ⟨⟨h1, h2⟩, h3⟩ := h; unfold sx_isB at h1 h2; omega)
theorem bo_1_3 {b o : Nat} (h : sx_bo b o) : (b + 1 = o + 3) = False := eq_false (by obtain ⟨⟨h1, h2⟩, h3⟩ := h; unfold sx_isB at h1 h2; omega)
theorem ob_1_3 {b o : Nat} (h : sx_bo b o) : (o + 3 = b + 1) = False := eq_false (by obtain ⟨⟨h1, h2⟩, h3⟩ := h; unfold sx_isB at h1 h2; omega)
theorem bo_1_4 {b o : Nat} (h : sx_bo b o) : (b + 1 = o + 4) = False := eq_false (by obtain ⟨⟨h1, h2⟩, h3⟩ := h; unfold sx_isB at h1 h2; omega)
theorem ob_1_4 {b o : Nat} (h : sx_bo b o) : (o + 4 = b + 1) = False := eq_false (by obtain ⟨⟨h1, h2⟩, h3⟩ := h; unfold sx_isB at h1 h2; omega)
theorem bo_1_5 {b o : Nat} (h : sx_bo b o) : (b + 1 = o + 5) = False := eq_false (by obtain ⟨⟨h1, h2⟩, h3⟩ := h; unfold sx_isB at h1 h2; omega)
theorem ob_1_5 {b o : Nat} (h : sx_bo b o) : (o + 5 = b + 1) = False := eq_false (by obtain ⟨⟨h1, h2⟩, h3⟩ := h; unfold sx_isB at h1 h2; omega)
theorem bo_2_0 {b o : Nat} (h : sx_bo b o) : (b + 2 = o) = False := eq_false (by obtain ⟨⟨h1, h2⟩, h3⟩ := h; unfold sx_isB at h1 h2; omega)
theorem ob_2_0 {b o : Nat} (h : sx_bo b o) : (o = b + 2) = False := eq_false (by obtain ⟨⟨h1, h2⟩, h3⟩ := h; unfold sx_isB at h1 h2; omega)
theorem bo_2_1 {b o : Nat} (h : sx_bo b o) : (b + 2 = o + 1) = False := eq_false (by obtain ⟨⟨h1, h2⟩, h3⟩ := h; unfold sx_isB at h1 h2; omega)
theorem ob_2_1 {b o : Nat} (h : sx_bo b o) : (o + 1 = b + 2) = False := eq_false (by obtain ⟨⟨h1, h2⟩, h3⟩ := h; unfold sx_isB at h1 h2; omega)
theorem bo_2_2 {b o : Nat} (h : sx_bo b o) : (b + 2 = o + 2) = False := eq_false (by obtain ⟨⟨h1, h2⟩, h3⟩ := h; unfold sx_isB at h1 h2; omega)
theorem ob_2_2 {b o : Nat} (h : sx_bo b o) : (o + 2 = b + 2) = False := eq_false (by obtain ⟨⟨h1, h2⟩, h3⟩ := h; unfold sx_isB at h1 h2; omega)
theorem bo_2_3 {b o : Nat} (h : sx_bo b o) : (b + 2 = o + 3) = False := eq_false (by obtain ⟨⟨h1, h2⟩, h3⟩ := h; unfold sx_isB at h1 h2; omega)
theorem ob_2_3 {b o : Nat} (h : sx_bo b o) : (o + 3 = b + 2) = False := eq_false (by obtain ⟨⟨h1, h2⟩, h3⟩ := h; unfold sx_isB at h1 h2; omega)
theorem bo_2_4 {b o : Nat} (h : sx_bo b o) : (b + 2 = o + 4) = False := eq_false (by obtain ⟨⟨h1, h2⟩, h3⟩ := h; unfold sx_isB at h1 h2; omega)
theorem ob_2_4 {b o : Nat} (h : sx_bo b o) : (o + 4 = b + 2) = False := eq_false (by obtain ⟨⟨h1, h2⟩, h3⟩ := h; unfold sx_isB at h1 h2; omega)
theorem bo_2_5 {b o : Nat} (h : sx_bo b o) : (b + 2 = o + 5) = False := eq_false (by obtain ⟨⟨h1, h2⟩, h3⟩ := h; unfold sx_isB at h1 h2; omega)
theorem ob_2_5 {b o : Nat} (h : sx_bo b o) : (o + 5 = b + 2) = False := eq_false (by obtain ⟨⟨h1, h2⟩, h3⟩ := h; unfold sx_isB at h1 h2; omega)
theorem bo_3_0 {b o : Nat} (h : sx_bo b o) : (b + 3 = o) = False := eq_false (by obtain ⟨⟨h1, h2⟩, h3⟩ := h; unfold sx_isB at h1 h2; omega)
theorem ob_3_0 {b o : Nat} (h : sx_bo b o) : (o = b + 3) = False := eq_false (by obtain ⟨⟨h1, h2⟩, h3⟩ := h; unfold sx_isB at h1 h2; omega)
theorem bo_3_1 {b o : Nat} (h : sx_bo b o) : (b + 3 = o + 1) = False := eq_false (by obtain ⟨⟨h1, h2⟩, h3⟩ := h; unfold sx_isB at h1 h2; omega)
theorem ob_3_1 {b o : Nat} (h : sx_bo b o) : (o + 1 = b + 3) = False := eq_false (by obtain ⟨⟨h1, h2⟩, h3⟩ := h; unfold sx_isB at h1 h2; omega)
theorem bo_3_2 {b o : Nat} (h : sx_bo b o) : (b + 3 = o + 2) = False := eq_false (by obtain ⟨⟨h1, h2⟩, h3⟩ := h; unfold sx_isB at h1 h2; omega)
theorem ob_3_2 {b o : Nat} (h : sx_bo b o) : (o + 2 = b + 3) = False := eq_false (by obtain ⟨⟨h1, h2⟩, h3⟩ := h; unfold sx_isB at h1 h2; omega)
theorem bo_3_3 {b o : Nat} (h : sx_bo b o) : (b + 3 = o + 3) = False := eq_false (by obtain ⟨⟨h1, h2⟩, h3⟩ := h; unfold sx_isB at h1 h2; omega)
theorem ob_3_3 {b o : Nat} (h : sx_bo b o) : (o + 3 = b + 3) = False := eq_false (by obtain ⟨⟨h1, h2⟩, h3⟩ := h; unfold sx_isB at h1 h2; omega)
theorem bo_3_4 {b o : Nat} (h : sx_bo b o) : (b + 3 = o + 4) = False := eq_false (by obtain ⟨⟨h1, h2⟩, h3⟩ := h; unfold sx_isB at h1 h2; omega)
theorem ob_3_4 {b o : Nat} (h : sx_bo b o) : (o + 4 = b + 3) = False := eq_false (by obtain ⟨⟨h1, h2⟩, h3⟩ := h; unfold sx_isB at h1 h2; omega)
theorem bo_3_5 {b o : Nat} (h : sx_bo b o) : (b + 3 = o + 5) = False := eq_false (by obtain ⟨⟨h1, h2⟩, h3⟩ := h; unfold sx_isB at h1 h2; omega)
theorem ob_3_5 {b o : Nat} (h : sx_bo b o) : (o + 5 = b + 3) = False := eq_false (by obtain ⟨⟨h1, h2⟩, h3⟩ := h; unfold sx_isB at h1 h2; omega)
theorem bo_4_0 {b o : Nat} (h : sx_bo b o) : (b + 4 = o) = False := eq_false (by obtain ⟨⟨h1, h2⟩, h3⟩ := h; unfold sx_isB at h1 h2; omega)
theorem ob_4_0 {b o : Nat} (h : sx_bo b o) : (o = b + 4) = False := eq_false (by obtain ⟨⟨h1, h2⟩, h3⟩ := h; unfold sx_isB at h1 h2; omega)
theorem bo_4_1 {b o : Nat} (h : sx_bo b o) : (b + 4 = o + 1) = False := eq_false (by obtain ⟨⟨h1, h2⟩, h3⟩ := h; unfold sx_isB at h1 h2; omega)
theorem ob_4_1 {b o : Nat} (h : sx_bo b o) : (o + 1 = b + 4) = False := eq_false (by obtain ⟨⟨h1, h2⟩, h3⟩ := h; unfold sx_isB at h1 h2; omega)
theorem bo_4_2 {b o : Nat} (h : sx_bo b o) : (b + 4 = o + 2) = False := eq_false (by obtain ⟨⟨h1, h2⟩, h3⟩ := h; unfold sx_isB at h1 h2; omega)
theorem ob_4_2 {b o : Nat} (h : sx_bo b o) : (o + 2 = b + 4) = False := eq_false (by obtain ⟨⟨h1, h2⟩, h3⟩ := h; unfold sx_isB at h1 h2; omega)
theorem bo_4_3 {b o : Nat} (h : sx_bo b o) : (b + 4 = o + 3) = False := eq_false (by obtain ⟨⟨h1, h2⟩, h3⟩ := h; unfold sx_isB at h1 h2; omega)
theorem ob_4_3 {b o : Nat} (h : sx_bo b o) : (o + 3 = b + 4) = False := eq_false (by obtain ⟨⟨h1, h2⟩, h3⟩ := h; unfold sx_isB at h1 h2; omega)
theorem bo_4_4 {b o : Nat} (h : sx_bo b o) : (b + 4 = o + 4) = False := eq_false (by obtain ⟨⟨h1, h2⟩, h3⟩ := h; unfold sx_isB at h1 h2; omega)
theorem ob_4_4 {b o : Nat} (h : sx_bo b o) : (o + 4 = b + 4) = False := eq_false (by obtain ⟨⟨h1, h2⟩, h3⟩ := h; unfold sx_isB at h1 h2; omega)
theorem bo_4_5 {b o : Nat} (h : sx_bo b o) : (b + 4 = o + 5) = False := eq_false (by obtain ⟨⟨h1, h2⟩, h3⟩ := h; unfold sx_isB at h1 h2; omega)
theorem ob_4_5 {b o : Nat} (h : sx_bo b o) : (o + 5 = b + 4) = False := eq_false (by obtain ⟨⟨h1, h2⟩, h3⟩ := h; unfold sx_isB at h1 h2; omega)
theorem bo_5_0 {b o : Nat} (h : sx_bo b o) : (b + 5 = o) = False := eq_false (by obtain ⟨⟨h1, h2⟩, h3⟩ := h; unfold sx_isB at h1 h2; omega)
theorem ob_5_0 {b o : Nat} (h : sx_bo b o) : (o = b + 5) = False := eq_false (by obtain ⟨⟨h1, h2⟩, h3⟩ := h; unfold sx_isB at h1 h2; omega)
theorem bo_5_1 {b o : Nat} (h : sx_bo b o) : (b + 5 = o + 1) = False := eq_false (by obtain ⟨⟨h1, h2⟩, h3⟩ := h; unfold sx_isB at h1 h2; omega)
theorem ob_5_1 {b o : Nat} (h : sx_bo b o) : (o + 1 = b + 5) = False := eq_false (by obtain ⟨⟨h1, h2⟩, h3⟩ := h; unfold sx_isB at h1 h2; omega)
theorem bo_5_2 {b o : Nat} (h : sx_bo b o) : (b + 5 = o + 2) = False := eq_false (by obtain ⟨⟨h1, h2⟩, h3⟩ := h; unfold sx_isB at h1 h2; omega)
theorem ob_5_2 {b o : Nat} (h : sx_bo b o) : (o + 2 = b + 5) = False := eq_false (by obtain ⟨⟨h1, h2⟩, h3⟩ := h; unfold sx_isB at h1 h2; omega)
theorem bo_5_3 {b o : Nat} (h : sx_bo b o) : (b + 5 = o + 3) = False := eq_false (by obtain ⟨⟨h1, h2⟩, h3⟩ := h; unfold sx_isB at h1 h2; omega)
theorem ob_5_3 {b o : Nat} (h : sx_bo b o) : (o + 3 = b + 5) = False := eq_false (by obtain ⟨⟨h1, h2⟩, h3⟩ := h; unfold sx_isB at h1 h2; omega)
theorem bo_5_4 {b o : Nat} (h : sx_bo b o) : (b + 5 = o + 4) = False := eq_false (by obtain ⟨⟨h1, h2⟩, h3⟩ := h; unfold sx_isB at h1 h2; omega)
theorem ob_5_4 {b o : Nat} (h : sx_bo b o) : (o + 4 = b + 5) = False := eq_false (by obtain ⟨⟨h1, h2⟩, h3⟩ := h; unfold sx_isB at h1 h2; omega)
theorem bo_5_5 {b o : Nat} (h : sx_bo b o) : (b + 5 = o + 5) = False := eq_false (by obtain ⟨⟨h1, h2⟩, h3⟩ := h; unfold sx_isB at h1 h2; omega)
theorem ob_5_5 {b o : Nat} (h : sx_bo b o) : (o + 5 = b + 5) = False := eq_false (by obtain ⟨⟨h1, h2⟩, h3⟩ := h; unfold sx_isB at h1 h2; omega)
theorem up_sw {α : Type} {f : Nat → α} {i j : Nat} {x y z : α} (h : ¬ i = j) : va_up (va_up (va_up f i x) j y) i z = va_up (va_up f i z) j y := by
  funext q
  unfold va_up
  by_cases h1 : q = i
  · subst h1; simp [h]
  · by_cases h2 : q = j
    · subst h2; simp [h1]
    · simp [h1, h2]
