theorem mm_blt_f {a b : Nat} (h : b ≤ a) : Nat.blt a b = false := by
  cases e : Nat.blt a b with
  | false => rfl
  | true => exact absurd (Nat.le_of_ble_eq_true e) (by omega)
theorem mm_sel {P : Nat → (Nat → Option mm_R) → Prop} {mi : Nat} (k : Nat) {f g : Nat → Option mm_R} (h1 : P mi f) (h2 : P mi g) : P mi (bif Nat.blt mi k then f else g) := by
  cases Nat.blt mi k <;> assumption
theorem mm_leaf {P : Nat → (Nat → Option mm_R) → Prop} {mi k : Nat} {f : Nat → Option mm_R} (h1 : P k f) (h2 : P mi (fun _ => none)) : P mi (bif Nat.beq mi k then f else (fun _ => none)) := by
  cases e : Nat.beq mi k with
  | false => exact h2
  | true => rw [Nat.eq_of_beq_eq_true e]; exact h1
theorem cm_L_law : ∀ pc q, kd_L_law pc = some q → mm_ck 0 pc q = true := fun pc q h => by
  rcases Nat.lt_or_ge pc 1321 with hl | hl
  · rcases Nat.lt_or_ge pc 100 with h0 | h0
    · exact mm_ckp_at ck_L_law_0 pc q (by omega) (by omega) h
    · rcases Nat.lt_or_ge pc 200 with h1 | h1
      · exact mm_ckp_at ck_L_law_1 pc q (by omega) (by omega) h
      · rcases Nat.lt_or_ge pc 300 with h2 | h2
        · exact mm_ckp_at ck_L_law_2 pc q (by omega) (by omega) h
        · rcases Nat.lt_or_ge pc 400 with h3 | h3
          · exact mm_ckp_at ck_L_law_3 pc q (by omega) (by omega) h
          · rcases Nat.lt_or_ge pc 500 with h4 | h4
            · exact mm_ckp_at ck_L_law_4 pc q (by omega) (by omega) h
            · rcases Nat.lt_or_ge pc 600 with h5 | h5
              · exact mm_ckp_at ck_L_law_5 pc q (by omega) (by omega) h
              · rcases Nat.lt_or_ge pc 700 with h6 | h6
                · exact mm_ckp_at ck_L_law_6 pc q (by omega) (by omega) h
                · rcases Nat.lt_or_ge pc 800 with h7 | h7
                  · exact mm_ckp_at ck_L_law_7 pc q (by omega) (by omega) h
                  · rcases Nat.lt_or_ge pc 900 with h8 | h8
                    · exact mm_ckp_at ck_L_law_8 pc q (by omega) (by omega) h
                    · rcases Nat.lt_or_ge pc 1000 with h9 | h9
                      · exact mm_ckp_at ck_L_law_9 pc q (by omega) (by omega) h
                      · rcases Nat.lt_or_ge pc 1100 with h10 | h10
                        · exact mm_ckp_at ck_L_law_10 pc q (by omega) (by omega) h
                        · rcases Nat.lt_or_ge pc 1200 with h11 | h11
                          · exact mm_ckp_at ck_L_law_11 pc q (by omega) (by omega) h
                          · rcases Nat.lt_or_ge pc 1300 with h12 | h12
                            · exact mm_ckp_at ck_L_law_12 pc q (by omega) (by omega) h
                            · exact mm_ckp_at ck_L_law_13 pc q (by omega) (by omega) h
  · exact absurd h (by unfold kd_L_law; rw [mm_blt_f hl]; exact fun z => nomatch z)

theorem cm_X0_init : ∀ pc q, kd_X0_init pc = some q → mm_ck 1 pc q = true := fun pc q h => by
  rcases Nat.lt_or_ge pc 21 with hl | hl
  · exact mm_ckp_at ck_X0_init_0 pc q (by omega) (by omega) h
  · exact absurd h (by unfold kd_X0_init; rw [mm_blt_f hl]; exact fun z => nomatch z)

theorem cm_X0_find : ∀ pc q, kd_X0_find pc = some q → mm_ck 2 pc q = true := fun pc q h => by
  rcases Nat.lt_or_ge pc 148 with hl | hl
  · rcases Nat.lt_or_ge pc 100 with h0 | h0
    · exact mm_ckp_at ck_X0_find_0 pc q (by omega) (by omega) h
    · exact mm_ckp_at ck_X0_find_1 pc q (by omega) (by omega) h
  · exact absurd h (by unfold kd_X0_find; rw [mm_blt_f hl]; exact fun z => nomatch z)

theorem cm_X0_cardsCutAt : ∀ pc q, kd_X0_cardsCutAt pc = some q → mm_ck 3 pc q = true := fun pc q h => by
  rcases Nat.lt_or_ge pc 37 with hl | hl
  · exact mm_ckp_at ck_X0_cardsCutAt_0 pc q (by omega) (by omega) h
  · exact absurd h (by unfold kd_X0_cardsCutAt; rw [mm_blt_f hl]; exact fun z => nomatch z)

theorem cm_X0_othersAt : ∀ pc q, kd_X0_othersAt pc = some q → mm_ck 4 pc q = true := fun pc q h => by
  rcases Nat.lt_or_ge pc 49 with hl | hl
  · exact mm_ckp_at ck_X0_othersAt_0 pc q (by omega) (by omega) h
  · exact absurd h (by unfold kd_X0_othersAt; rw [mm_blt_f hl]; exact fun z => nomatch z)

theorem cm_X0_choose : ∀ pc q, kd_X0_choose pc = some q → mm_ck 5 pc q = true := fun pc q h => by
  rcases Nat.lt_or_ge pc 70 with hl | hl
  · exact mm_ckp_at ck_X0_choose_0 pc q (by omega) (by omega) h
  · exact absurd h (by unfold kd_X0_choose; rw [mm_blt_f hl]; exact fun z => nomatch z)

theorem cm_X0_weigh : ∀ pc q, kd_X0_weigh pc = some q → mm_ck 6 pc q = true := fun pc q h => by
  rcases Nat.lt_or_ge pc 60 with hl | hl
  · exact mm_ckp_at ck_X0_weigh_0 pc q (by omega) (by omega) h
  · exact absurd h (by unfold kd_X0_weigh; rw [mm_blt_f hl]; exact fun z => nomatch z)

theorem cm_X1_init : ∀ pc q, kd_X1_init pc = some q → mm_ck 7 pc q = true := fun pc q h => by
  rcases Nat.lt_or_ge pc 47 with hl | hl
  · exact mm_ckp_at ck_X1_init_0 pc q (by omega) (by omega) h
  · exact absurd h (by unfold kd_X1_init; rw [mm_blt_f hl]; exact fun z => nomatch z)

theorem cm_X1_replay : ∀ pc q, kd_X1_replay pc = some q → mm_ck 8 pc q = true := fun pc q h => by
  rcases Nat.lt_or_ge pc 53 with hl | hl
  · exact mm_ckp_at ck_X1_replay_0 pc q (by omega) (by omega) h
  · exact absurd h (by unfold kd_X1_replay; rw [mm_blt_f hl]; exact fun z => nomatch z)

theorem cm_X1_forget : ∀ pc q, kd_X1_forget pc = some q → mm_ck 9 pc q = true := fun pc q h => by
  rcases Nat.lt_or_ge pc 79 with hl | hl
  · exact mm_ckp_at ck_X1_forget_0 pc q (by omega) (by omega) h
  · exact absurd h (by unfold kd_X1_forget; rw [mm_blt_f hl]; exact fun z => nomatch z)

theorem cm_X1_markStruck : ∀ pc q, kd_X1_markStruck pc = some q → mm_ck 10 pc q = true := fun pc q h => by
  rcases Nat.lt_or_ge pc 82 with hl | hl
  · exact mm_ckp_at ck_X1_markStruck_0 pc q (by omega) (by omega) h
  · exact absurd h (by unfold kd_X1_markStruck; rw [mm_blt_f hl]; exact fun z => nomatch z)

theorem cm_X1_apply : ∀ pc q, kd_X1_apply pc = some q → mm_ck 11 pc q = true := fun pc q h => by
  rcases Nat.lt_or_ge pc 199 with hl | hl
  · rcases Nat.lt_or_ge pc 100 with h0 | h0
    · exact mm_ckp_at ck_X1_apply_0 pc q (by omega) (by omega) h
    · exact mm_ckp_at ck_X1_apply_1 pc q (by omega) (by omega) h
  · exact absurd h (by unfold kd_X1_apply; rw [mm_blt_f hl]; exact fun z => nomatch z)

theorem cm_X1_valueOf : ∀ pc q, kd_X1_valueOf pc = some q → mm_ck 12 pc q = true := fun pc q h => by
  rcases Nat.lt_or_ge pc 12 with hl | hl
  · exact mm_ckp_at ck_X1_valueOf_0 pc q (by omega) (by omega) h
  · exact absurd h (by unfold kd_X1_valueOf; rw [mm_blt_f hl]; exact fun z => nomatch z)

theorem cm_X1_hasWord : ∀ pc q, kd_X1_hasWord pc = some q → mm_ck 13 pc q = true := fun pc q h => by
  rcases Nat.lt_or_ge pc 19 with hl | hl
  · exact mm_ckp_at ck_X1_hasWord_0 pc q (by omega) (by omega) h
  · exact absurd h (by unfold kd_X1_hasWord; rw [mm_blt_f hl]; exact fun z => nomatch z)

theorem cm_X1_isCutAt : ∀ pc q, kd_X1_isCutAt pc = some q → mm_ck 14 pc q = true := fun pc q h => by
  rcases Nat.lt_or_ge pc 19 with hl | hl
  · exact mm_ckp_at ck_X1_isCutAt_0 pc q (by omega) (by omega) h
  · exact absurd h (by unfold kd_X1_isCutAt; rw [mm_blt_f hl]; exact fun z => nomatch z)

theorem cm_X2_init : ∀ pc q, kd_X2_init pc = some q → mm_ck 15 pc q = true := fun pc q h => by
  rcases Nat.lt_or_ge pc 21 with hl | hl
  · exact mm_ckp_at ck_X2_init_0 pc q (by omega) (by omega) h
  · exact absurd h (by unfold kd_X2_init; rw [mm_blt_f hl]; exact fun z => nomatch z)

theorem cm_X2_findSets : ∀ pc q, kd_X2_findSets pc = some q → mm_ck 16 pc q = true := fun pc q h => by
  rcases Nat.lt_or_ge pc 156 with hl | hl
  · rcases Nat.lt_or_ge pc 100 with h0 | h0
    · exact mm_ckp_at ck_X2_findSets_0 pc q (by omega) (by omega) h
    · exact mm_ckp_at ck_X2_findSets_1 pc q (by omega) (by omega) h
  · exact absurd h (by unfold kd_X2_findSets; rw [mm_blt_f hl]; exact fun z => nomatch z)

theorem cm_X2_chooseFrom : ∀ pc q, kd_X2_chooseFrom pc = some q → mm_ck 17 pc q = true := fun pc q h => by
  rcases Nat.lt_or_ge pc 91 with hl | hl
  · exact mm_ckp_at ck_X2_chooseFrom_0 pc q (by omega) (by omega) h
  · exact absurd h (by unfold kd_X2_chooseFrom; rw [mm_blt_f hl]; exact fun z => nomatch z)

theorem cm_X2_findValues : ∀ pc q, kd_X2_findValues pc = some q → mm_ck 18 pc q = true := fun pc q h => by
  rcases Nat.lt_or_ge pc 131 with hl | hl
  · rcases Nat.lt_or_ge pc 100 with h0 | h0
    · exact mm_ckp_at ck_X2_findValues_0 pc q (by omega) (by omega) h
    · exact mm_ckp_at ck_X2_findValues_1 pc q (by omega) (by omega) h
  · exact absurd h (by unfold kd_X2_findValues; rw [mm_blt_f hl]; exact fun z => nomatch z)

theorem cm_X3_init : ∀ pc q, kd_X3_init pc = some q → mm_ck 19 pc q = true := fun pc q h => by
  rcases Nat.lt_or_ge pc 41 with hl | hl
  · exact mm_ckp_at ck_X3_init_0 pc q (by omega) (by omega) h
  · exact absurd h (by unfold kd_X3_init; rw [mm_blt_f hl]; exact fun z => nomatch z)

theorem cm_X3_add : ∀ pc q, kd_X3_add pc = some q → mm_ck 20 pc q = true := fun pc q h => by
  rcases Nat.lt_or_ge pc 70 with hl | hl
  · exact mm_ckp_at ck_X3_add_0 pc q (by omega) (by omega) h
  · exact absurd h (by unfold kd_X3_add; rw [mm_blt_f hl]; exact fun z => nomatch z)

theorem cm_X4_init : ∀ pc q, kd_X4_init pc = some q → mm_ck 21 pc q = true := fun pc q h => by
  rcases Nat.lt_or_ge pc 41 with hl | hl
  · exact mm_ckp_at ck_X4_init_0 pc q (by omega) (by omega) h
  · exact absurd h (by unfold kd_X4_init; rw [mm_blt_f hl]; exact fun z => nomatch z)

theorem cm_X4_clear : ∀ pc q, kd_X4_clear pc = some q → mm_ck 22 pc q = true := fun pc q h => by
  rcases Nat.lt_or_ge pc 27 with hl | hl
  · exact mm_ckp_at ck_X4_clear_0 pc q (by omega) (by omega) h
  · exact absurd h (by unfold kd_X4_clear; rw [mm_blt_f hl]; exact fun z => nomatch z)

theorem cm_X4_append : ∀ pc q, kd_X4_append pc = some q → mm_ck 23 pc q = true := fun pc q h => by
  rcases Nat.lt_or_ge pc 36 with hl | hl
  · exact mm_ckp_at ck_X4_append_0 pc q (by omega) (by omega) h
  · exact absurd h (by unfold kd_X4_append; rw [mm_blt_f hl]; exact fun z => nomatch z)

theorem cm_X4_lay : ∀ pc q, kd_X4_lay pc = some q → mm_ck 24 pc q = true := fun pc q h => by
  rcases Nat.lt_or_ge pc 63 with hl | hl
  · exact mm_ckp_at ck_X4_lay_0 pc q (by omega) (by omega) h
  · exact absurd h (by unfold kd_X4_lay; rw [mm_blt_f hl]; exact fun z => nomatch z)

theorem cm_X4_mirrored : ∀ pc q, kd_X4_mirrored pc = some q → mm_ck 25 pc q = true := fun pc q h => by
  rcases Nat.lt_or_ge pc 30 with hl | hl
  · exact mm_ckp_at ck_X4_mirrored_0 pc q (by omega) (by omega) h
  · exact absurd h (by unfold kd_X4_mirrored; rw [mm_blt_f hl]; exact fun z => nomatch z)

theorem cm_X4_isDropping : ∀ pc q, kd_X4_isDropping pc = some q → mm_ck 26 pc q = true := fun pc q h => by
  rcases Nat.lt_or_ge pc 19 with hl | hl
  · exact mm_ckp_at ck_X4_isDropping_0 pc q (by omega) (by omega) h
  · exact absurd h (by unfold kd_X4_isDropping; rw [mm_blt_f hl]; exact fun z => nomatch z)

theorem cm_X4_dropping : ∀ pc q, kd_X4_dropping pc = some q → mm_ck 27 pc q = true := fun pc q h => by
  rcases Nat.lt_or_ge pc 56 with hl | hl
  · exact mm_ckp_at ck_X4_dropping_0 pc q (by omega) (by omega) h
  · exact absurd h (by unfold kd_X4_dropping; rw [mm_blt_f hl]; exact fun z => nomatch z)

theorem cm_X4_deal : ∀ pc q, kd_X4_deal pc = some q → mm_ck 28 pc q = true := fun pc q h => by
  rcases Nat.lt_or_ge pc 96 with hl | hl
  · exact mm_ckp_at ck_X4_deal_0 pc q (by omega) (by omega) h
  · exact absurd h (by unfold kd_X4_deal; rw [mm_blt_f hl]; exact fun z => nomatch z)

theorem cm_X5_init : ∀ pc q, kd_X5_init pc = some q → mm_ck 29 pc q = true := fun pc q h => by
  rcases Nat.lt_or_ge pc 75 with hl | hl
  · exact mm_ckp_at ck_X5_init_0 pc q (by omega) (by omega) h
  · exact absurd h (by unfold kd_X5_init; rw [mm_blt_f hl]; exact fun z => nomatch z)

theorem cm_X5_read : ∀ pc q, kd_X5_read pc = some q → mm_ck 30 pc q = true := fun pc q h => by
  rcases Nat.lt_or_ge pc 78 with hl | hl
  · exact mm_ckp_at ck_X5_read_0 pc q (by omega) (by omega) h
  · exact absurd h (by unfold kd_X5_read; rw [mm_blt_f hl]; exact fun z => nomatch z)

theorem cm_X5_readLine : ∀ pc q, kd_X5_readLine pc = some q → mm_ck 31 pc q = true := fun pc q h => by
  rcases Nat.lt_or_ge pc 65 with hl | hl
  · exact mm_ckp_at ck_X5_readLine_0 pc q (by omega) (by omega) h
  · exact absurd h (by unfold kd_X5_readLine; rw [mm_blt_f hl]; exact fun z => nomatch z)

theorem cm_X5_readHoles : ∀ pc q, kd_X5_readHoles pc = some q → mm_ck 32 pc q = true := fun pc q h => by
  rcases Nat.lt_or_ge pc 44 with hl | hl
  · exact mm_ckp_at ck_X5_readHoles_0 pc q (by omega) (by omega) h
  · exact absurd h (by unfold kd_X5_readHoles; rw [mm_blt_f hl]; exact fun z => nomatch z)

theorem cm_X5_readField : ∀ pc q, kd_X5_readField pc = some q → mm_ck 33 pc q = true := fun pc q h => by
  rcases Nat.lt_or_ge pc 188 with hl | hl
  · rcases Nat.lt_or_ge pc 100 with h0 | h0
    · exact mm_ckp_at ck_X5_readField_0 pc q (by omega) (by omega) h
    · exact mm_ckp_at ck_X5_readField_1 pc q (by omega) (by omega) h
  · exact absurd h (by unfold kd_X5_readField; rw [mm_blt_f hl]; exact fun z => nomatch z)

theorem cm_X5_isNewName : ∀ pc q, kd_X5_isNewName pc = some q → mm_ck 34 pc q = true := fun pc q h => by
  rcases Nat.lt_or_ge pc 46 with hl | hl
  · exact mm_ckp_at ck_X5_isNewName_0 pc q (by omega) (by omega) h
  · exact absurd h (by unfold kd_X5_isNewName; rw [mm_blt_f hl]; exact fun z => nomatch z)

theorem cm_X5_kindAt : ∀ pc q, kd_X5_kindAt pc = some q → mm_ck 35 pc q = true := fun pc q h => by
  rcases Nat.lt_or_ge pc 48 with hl | hl
  · exact mm_ckp_at ck_X5_kindAt_0 pc q (by omega) (by omega) h
  · exact absurd h (by unfold kd_X5_kindAt; rw [mm_blt_f hl]; exact fun z => nomatch z)

theorem cm_X5_readStretch : ∀ pc q, kd_X5_readStretch pc = some q → mm_ck 36 pc q = true := fun pc q h => by
  rcases Nat.lt_or_ge pc 104 with hl | hl
  · rcases Nat.lt_or_ge pc 100 with h0 | h0
    · exact mm_ckp_at ck_X5_readStretch_0 pc q (by omega) (by omega) h
    · exact mm_ckp_at ck_X5_readStretch_1 pc q (by omega) (by omega) h
  · exact absurd h (by unfold kd_X5_readStretch; rw [mm_blt_f hl]; exact fun z => nomatch z)

theorem cm_X5_readDecimal : ∀ pc q, kd_X5_readDecimal pc = some q → mm_ck 37 pc q = true := fun pc q h => by
  rcases Nat.lt_or_ge pc 54 with hl | hl
  · exact mm_ckp_at ck_X5_readDecimal_0 pc q (by omega) (by omega) h
  · exact absurd h (by unfold kd_X5_readDecimal; rw [mm_blt_f hl]; exact fun z => nomatch z)

theorem cm_X5_readChosen : ∀ pc q, kd_X5_readChosen pc = some q → mm_ck 38 pc q = true := fun pc q h => by
  rcases Nat.lt_or_ge pc 41 with hl | hl
  · exact mm_ckp_at ck_X5_readChosen_0 pc q (by omega) (by omega) h
  · exact absurd h (by unfold kd_X5_readChosen; rw [mm_blt_f hl]; exact fun z => nomatch z)

theorem cm_X5_isFree : ∀ pc q, kd_X5_isFree pc = some q → mm_ck 39 pc q = true := fun pc q h => by
  rcases Nat.lt_or_ge pc 29 with hl | hl
  · exact mm_ckp_at ck_X5_isFree_0 pc q (by omega) (by omega) h
  · exact absurd h (by unfold kd_X5_isFree; rw [mm_blt_f hl]; exact fun z => nomatch z)

theorem cm_X5_keepHoles : ∀ pc q, kd_X5_keepHoles pc = some q → mm_ck 40 pc q = true := fun pc q h => by
  rcases Nat.lt_or_ge pc 31 with hl | hl
  · exact mm_ckp_at ck_X5_keepHoles_0 pc q (by omega) (by omega) h
  · exact absurd h (by unfold kd_X5_keepHoles; rw [mm_blt_f hl]; exact fun z => nomatch z)

theorem cm_X5_readWord : ∀ pc q, kd_X5_readWord pc = some q → mm_ck 41 pc q = true := fun pc q h => by
  rcases Nat.lt_or_ge pc 128 with hl | hl
  · rcases Nat.lt_or_ge pc 100 with h0 | h0
    · exact mm_ckp_at ck_X5_readWord_0 pc q (by omega) (by omega) h
    · exact mm_ckp_at ck_X5_readWord_1 pc q (by omega) (by omega) h
  · exact absurd h (by unfold kd_X5_readWord; rw [mm_blt_f hl]; exact fun z => nomatch z)

theorem cm_X5_readCode : ∀ pc q, kd_X5_readCode pc = some q → mm_ck 42 pc q = true := fun pc q h => by
  rcases Nat.lt_or_ge pc 154 with hl | hl
  · rcases Nat.lt_or_ge pc 100 with h0 | h0
    · exact mm_ckp_at ck_X5_readCode_0 pc q (by omega) (by omega) h
    · exact mm_ckp_at ck_X5_readCode_1 pc q (by omega) (by omega) h
  · exact absurd h (by unfold kd_X5_readCode; rw [mm_blt_f hl]; exact fun z => nomatch z)

theorem cm_X5_isField : ∀ pc q, kd_X5_isField pc = some q → mm_ck 43 pc q = true := fun pc q h => by
  rcases Nat.lt_or_ge pc 18 with hl | hl
  · exact mm_ckp_at ck_X5_isField_0 pc q (by omega) (by omega) h
  · exact absurd h (by unfold kd_X5_isField; rw [mm_blt_f hl]; exact fun z => nomatch z)

theorem cm_X5_isWord : ∀ pc q, kd_X5_isWord pc = some q → mm_ck 44 pc q = true := fun pc q h => by
  rcases Nat.lt_or_ge pc 18 with hl | hl
  · exact mm_ckp_at ck_X5_isWord_0 pc q (by omega) (by omega) h
  · exact absurd h (by unfold kd_X5_isWord; rw [mm_blt_f hl]; exact fun z => nomatch z)

theorem cm_X5_isLaid : ∀ pc q, kd_X5_isLaid pc = some q → mm_ck 45 pc q = true := fun pc q h => by
  rcases Nat.lt_or_ge pc 16 with hl | hl
  · exact mm_ckp_at ck_X5_isLaid_0 pc q (by omega) (by omega) h
  · exact absurd h (by unfold kd_X5_isLaid; rw [mm_blt_f hl]; exact fun z => nomatch z)

theorem cm_X5_isValue : ∀ pc q, kd_X5_isValue pc = some q → mm_ck 46 pc q = true := fun pc q h => by
  rcases Nat.lt_or_ge pc 36 with hl | hl
  · exact mm_ckp_at ck_X5_isValue_0 pc q (by omega) (by omega) h
  · exact absurd h (by unfold kd_X5_isValue; rw [mm_blt_f hl]; exact fun z => nomatch z)

theorem cm_X5_width : ∀ pc q, kd_X5_width pc = some q → mm_ck 47 pc q = true := fun pc q h => by
  rcases Nat.lt_or_ge pc 16 with hl | hl
  · exact mm_ckp_at ck_X5_width_0 pc q (by omega) (by omega) h
  · exact absurd h (by unfold kd_X5_width; rw [mm_blt_f hl]; exact fun z => nomatch z)

theorem cm_X5_spanOf : ∀ pc q, kd_X5_spanOf pc = some q → mm_ck 48 pc q = true := fun pc q h => by
  rcases Nat.lt_or_ge pc 16 with hl | hl
  · exact mm_ckp_at ck_X5_spanOf_0 pc q (by omega) (by omega) h
  · exact absurd h (by unfold kd_X5_spanOf; rw [mm_blt_f hl]; exact fun z => nomatch z)

theorem cm_X5_codeOf : ∀ pc q, kd_X5_codeOf pc = some q → mm_ck 49 pc q = true := fun pc q h => by
  rcases Nat.lt_or_ge pc 77 with hl | hl
  · exact mm_ckp_at ck_X5_codeOf_0 pc q (by omega) (by omega) h
  · exact absurd h (by unfold kd_X5_codeOf; rw [mm_blt_f hl]; exact fun z => nomatch z)

theorem cm_X5_isCodeOf : ∀ pc q, kd_X5_isCodeOf pc = some q → mm_ck 50 pc q = true := fun pc q h => by
  rcases Nat.lt_or_ge pc 40 with hl | hl
  · exact mm_ckp_at ck_X5_isCodeOf_0 pc q (by omega) (by omega) h
  · exact absurd h (by unfold kd_X5_isCodeOf; rw [mm_blt_f hl]; exact fun z => nomatch z)

theorem cm_X5_wordsOf : ∀ pc q, kd_X5_wordsOf pc = some q → mm_ck 51 pc q = true := fun pc q h => by
  rcases Nat.lt_or_ge pc 36 with hl | hl
  · exact mm_ckp_at ck_X5_wordsOf_0 pc q (by omega) (by omega) h
  · exact absurd h (by unfold kd_X5_wordsOf; rw [mm_blt_f hl]; exact fun z => nomatch z)

theorem cm_X5_fieldNamed : ∀ pc q, kd_X5_fieldNamed pc = some q → mm_ck 52 pc q = true := fun pc q h => by
  rcases Nat.lt_or_ge pc 13 with hl | hl
  · exact mm_ckp_at ck_X5_fieldNamed_0 pc q (by omega) (by omega) h
  · exact absurd h (by unfold kd_X5_fieldNamed; rw [mm_blt_f hl]; exact fun z => nomatch z)

theorem cm_X5_wordNamed : ∀ pc q, kd_X5_wordNamed pc = some q → mm_ck 53 pc q = true := fun pc q h => by
  rcases Nat.lt_or_ge pc 13 with hl | hl
  · exact mm_ckp_at ck_X5_wordNamed_0 pc q (by omega) (by omega) h
  · exact absurd h (by unfold kd_X5_wordNamed; rw [mm_blt_f hl]; exact fun z => nomatch z)

theorem cm_X5_find : ∀ pc q, kd_X5_find pc = some q → mm_ck 54 pc q = true := fun pc q h => by
  rcases Nat.lt_or_ge pc 30 with hl | hl
  · exact mm_ckp_at ck_X5_find_0 pc q (by omega) (by omega) h
  · exact absurd h (by unfold kd_X5_find; rw [mm_blt_f hl]; exact fun z => nomatch z)

theorem cm_X6_init : ∀ pc q, kd_X6_init pc = some q → mm_ck 55 pc q = true := fun pc q h => by
  rcases Nat.lt_or_ge pc 37 with hl | hl
  · exact mm_ckp_at ck_X6_init_0 pc q (by omega) (by omega) h
  · exact absurd h (by unfold kd_X6_init; rw [mm_blt_f hl]; exact fun z => nomatch z)

theorem cm_X6_clear : ∀ pc q, kd_X6_clear pc = some q → mm_ck 56 pc q = true := fun pc q h => by
  rcases Nat.lt_or_ge pc 11 with hl | hl
  · exact mm_ckp_at ck_X6_clear_0 pc q (by omega) (by omega) h
  · exact absurd h (by unfold kd_X6_clear; rw [mm_blt_f hl]; exact fun z => nomatch z)

theorem cm_X6_read : ∀ pc q, kd_X6_read pc = some q → mm_ck 57 pc q = true := fun pc q h => by
  rcases Nat.lt_or_ge pc 27 with hl | hl
  · exact mm_ckp_at ck_X6_read_0 pc q (by omega) (by omega) h
  · exact absurd h (by unfold kd_X6_read; rw [mm_blt_f hl]; exact fun z => nomatch z)

theorem cm_X6_readEither : ∀ pc q, kd_X6_readEither pc = some q → mm_ck 58 pc q = true := fun pc q h => by
  rcases Nat.lt_or_ge pc 66 with hl | hl
  · exact mm_ckp_at ck_X6_readEither_0 pc q (by omega) (by omega) h
  · exact absurd h (by unfold kd_X6_readEither; rw [mm_blt_f hl]; exact fun z => nomatch z)

theorem cm_X6_readBoth : ∀ pc q, kd_X6_readBoth pc = some q → mm_ck 59 pc q = true := fun pc q h => by
  rcases Nat.lt_or_ge pc 66 with hl | hl
  · exact mm_ckp_at ck_X6_readBoth_0 pc q (by omega) (by omega) h
  · exact absurd h (by unfold kd_X6_readBoth; rw [mm_blt_f hl]; exact fun z => nomatch z)

theorem cm_X6_readPart : ∀ pc q, kd_X6_readPart pc = some q → mm_ck 60 pc q = true := fun pc q h => by
  rcases Nat.lt_or_ge pc 93 with hl | hl
  · exact mm_ckp_at ck_X6_readPart_0 pc q (by omega) (by omega) h
  · exact absurd h (by unfold kd_X6_readPart; rw [mm_blt_f hl]; exact fun z => nomatch z)

theorem cm_X6_readInner : ∀ pc q, kd_X6_readInner pc = some q → mm_ck 61 pc q = true := fun pc q h => by
  rcases Nat.lt_or_ge pc 43 with hl | hl
  · exact mm_ckp_at ck_X6_readInner_0 pc q (by omega) (by omega) h
  · exact absurd h (by unfold kd_X6_readInner; rw [mm_blt_f hl]; exact fun z => nomatch z)

theorem cm_X6_readName : ∀ pc q, kd_X6_readName pc = some q → mm_ck 62 pc q = true := fun pc q h => by
  rcases Nat.lt_or_ge pc 154 with hl | hl
  · rcases Nat.lt_or_ge pc 100 with h0 | h0
    · exact mm_ckp_at ck_X6_readName_0 pc q (by omega) (by omega) h
    · exact mm_ckp_at ck_X6_readName_1 pc q (by omega) (by omega) h
  · exact absurd h (by unfold kd_X6_readName; rw [mm_blt_f hl]; exact fun z => nomatch z)

theorem cm_X6_passKnot : ∀ pc q, kd_X6_passKnot pc = some q → mm_ck 63 pc q = true := fun pc q h => by
  rcases Nat.lt_or_ge pc 31 with hl | hl
  · exact mm_ckp_at ck_X6_passKnot_0 pc q (by omega) (by omega) h
  · exact absurd h (by unfold kd_X6_passKnot; rw [mm_blt_f hl]; exact fun z => nomatch z)

theorem cm_X6_layDown : ∀ pc q, kd_X6_layDown pc = some q → mm_ck 64 pc q = true := fun pc q h => by
  rcases Nat.lt_or_ge pc 50 with hl | hl
  · exact mm_ckp_at ck_X6_layDown_0 pc q (by omega) (by omega) h
  · exact absurd h (by unfold kd_X6_layDown; rw [mm_blt_f hl]; exact fun z => nomatch z)

theorem cm_X6_answer : ∀ pc q, kd_X6_answer pc = some q → mm_ck 65 pc q = true := fun pc q h => by
  rcases Nat.lt_or_ge pc 212 with hl | hl
  · rcases Nat.lt_or_ge pc 100 with h0 | h0
    · exact mm_ckp_at ck_X6_answer_0 pc q (by omega) (by omega) h
    · rcases Nat.lt_or_ge pc 200 with h1 | h1
      · exact mm_ckp_at ck_X6_answer_1 pc q (by omega) (by omega) h
      · exact mm_ckp_at ck_X6_answer_2 pc q (by omega) (by omega) h
  · exact absurd h (by unfold kd_X6_answer; rw [mm_blt_f hl]; exact fun z => nomatch z)

theorem cm_X6_cardsByHoles : ∀ pc q, kd_X6_cardsByHoles pc = some q → mm_ck 66 pc q = true := fun pc q h => by
  rcases Nat.lt_or_ge pc 99 with hl | hl
  · exact mm_ckp_at ck_X6_cardsByHoles_0 pc q (by omega) (by omega) h
  · exact absurd h (by unfold kd_X6_cardsByHoles; rw [mm_blt_f hl]; exact fun z => nomatch z)

theorem cm_X6_cardsInTruth : ∀ pc q, kd_X6_cardsInTruth pc = some q → mm_ck 67 pc q = true := fun pc q h => by
  rcases Nat.lt_or_ge pc 100 with hl | hl
  · exact mm_ckp_at ck_X6_cardsInTruth_0 pc q (by omega) (by omega) h
  · exact absurd h (by unfold kd_X6_cardsInTruth; rw [mm_blt_f hl]; exact fun z => nomatch z)

theorem cm_X7_init : ∀ pc q, kd_X7_init pc = some q → mm_ck 68 pc q = true := fun pc q h => by
  rcases Nat.lt_or_ge pc 53 with hl | hl
  · exact mm_ckp_at ck_X7_init_0 pc q (by omega) (by omega) h
  · exact absurd h (by unfold kd_X7_init; rw [mm_blt_f hl]; exact fun z => nomatch z)

theorem cm_X7_take : ∀ pc q, kd_X7_take pc = some q → mm_ck 69 pc q = true := fun pc q h => by
  rcases Nat.lt_or_ge pc 103 with hl | hl
  · rcases Nat.lt_or_ge pc 100 with h0 | h0
    · exact mm_ckp_at ck_X7_take_0 pc q (by omega) (by omega) h
    · exact mm_ckp_at ck_X7_take_1 pc q (by omega) (by omega) h
  · exact absurd h (by unfold kd_X7_take; rw [mm_blt_f hl]; exact fun z => nomatch z)

theorem cm_X7_fewestMoves : ∀ pc q, kd_X7_fewestMoves pc = some q → mm_ck 70 pc q = true := fun pc q h => by
  rcases Nat.lt_or_ge pc 94 with hl | hl
  · exact mm_ckp_at ck_X7_fewestMoves_0 pc q (by omega) (by omega) h
  · exact absurd h (by unfold kd_X7_fewestMoves; rw [mm_blt_f hl]; exact fun z => nomatch z)

theorem cm_X7_findRow : ∀ pc q, kd_X7_findRow pc = some q → mm_ck 71 pc q = true := fun pc q h => by
  rcases Nat.lt_or_ge pc 144 with hl | hl
  · rcases Nat.lt_or_ge pc 100 with h0 | h0
    · exact mm_ckp_at ck_X7_findRow_0 pc q (by omega) (by omega) h
    · exact mm_ckp_at ck_X7_findRow_1 pc q (by omega) (by omega) h
  · exact absurd h (by unfold kd_X7_findRow; rw [mm_blt_f hl]; exact fun z => nomatch z)

theorem cm_X7_firstRow : ∀ pc q, kd_X7_firstRow pc = some q → mm_ck 72 pc q = true := fun pc q h => by
  rcases Nat.lt_or_ge pc 75 with hl | hl
  · exact mm_ckp_at ck_X7_firstRow_0 pc q (by omega) (by omega) h
  · exact absurd h (by unfold kd_X7_firstRow; rw [mm_blt_f hl]; exact fun z => nomatch z)

theorem cm_X7_isParting : ∀ pc q, kd_X7_isParting pc = some q → mm_ck 73 pc q = true := fun pc q h => by
  rcases Nat.lt_or_ge pc 155 with hl | hl
  · rcases Nat.lt_or_ge pc 100 with h0 | h0
    · exact mm_ckp_at ck_X7_isParting_0 pc q (by omega) (by omega) h
    · exact mm_ckp_at ck_X7_isParting_1 pc q (by omega) (by omega) h
  · exact absurd h (by unfold kd_X7_isParting; rw [mm_blt_f hl]; exact fun z => nomatch z)

theorem cm_X7_isOrdered : ∀ pc q, kd_X7_isOrdered pc = some q → mm_ck 74 pc q = true := fun pc q h => by
  rcases Nat.lt_or_ge pc 92 with hl | hl
  · exact mm_ckp_at ck_X7_isOrdered_0 pc q (by omega) (by omega) h
  · exact absurd h (by unfold kd_X7_isOrdered; rw [mm_blt_f hl]; exact fun z => nomatch z)

theorem cm_X7_holeOfPass : ∀ pc q, kd_X7_holeOfPass pc = some q → mm_ck 75 pc q = true := fun pc q h => by
  rcases Nat.lt_or_ge pc 19 with hl | hl
  · exact mm_ckp_at ck_X7_holeOfPass_0 pc q (by omega) (by omega) h
  · exact absurd h (by unfold kd_X7_holeOfPass; rw [mm_blt_f hl]; exact fun z => nomatch z)

theorem cm_X8_init : ∀ pc q, kd_X8_init pc = some q → mm_ck 76 pc q = true := fun pc q h => by
  rcases Nat.lt_or_ge pc 46 with hl | hl
  · exact mm_ckp_at ck_X8_init_0 pc q (by omega) (by omega) h
  · exact absurd h (by unfold kd_X8_init; rw [mm_blt_f hl]; exact fun z => nomatch z)

theorem cm_X8_append : ∀ pc q, kd_X8_append pc = some q → mm_ck 77 pc q = true := fun pc q h => by
  rcases Nat.lt_or_ge pc 49 with hl | hl
  · exact mm_ckp_at ck_X8_append_0 pc q (by omega) (by omega) h
  · exact absurd h (by unfold kd_X8_append; rw [mm_blt_f hl]; exact fun z => nomatch z)

theorem cm_X8_begin : ∀ pc q, kd_X8_begin pc = some q → mm_ck 78 pc q = true := fun pc q h => by
  rcases Nat.lt_or_ge pc 45 with hl | hl
  · exact mm_ckp_at ck_X8_begin_0 pc q (by omega) (by omega) h
  · exact absurd h (by unfold kd_X8_begin; rw [mm_blt_f hl]; exact fun z => nomatch z)

theorem cm_X8_split : ∀ pc q, kd_X8_split pc = some q → mm_ck 79 pc q = true := fun pc q h => by
  rcases Nat.lt_or_ge pc 104 with hl | hl
  · rcases Nat.lt_or_ge pc 100 with h0 | h0
    · exact mm_ckp_at ck_X8_split_0 pc q (by omega) (by omega) h
    · exact mm_ckp_at ck_X8_split_1 pc q (by omega) (by omega) h
  · exact absurd h (by unfold kd_X8_split; rw [mm_blt_f hl]; exact fun z => nomatch z)

theorem cm_X8_splitLetters : ∀ pc q, kd_X8_splitLetters pc = some q → mm_ck 80 pc q = true := fun pc q h => by
  rcases Nat.lt_or_ge pc 100 with hl | hl
  · exact mm_ckp_at ck_X8_splitLetters_0 pc q (by omega) (by omega) h
  · exact absurd h (by unfold kd_X8_splitLetters; rw [mm_blt_f hl]; exact fun z => nomatch z)

theorem cm_X8_splitDigits : ∀ pc q, kd_X8_splitDigits pc = some q → mm_ck 81 pc q = true := fun pc q h => by
  rcases Nat.lt_or_ge pc 59 with hl | hl
  · exact mm_ckp_at ck_X8_splitDigits_0 pc q (by omega) (by omega) h
  · exact absurd h (by unfold kd_X8_splitDigits; rw [mm_blt_f hl]; exact fun z => nomatch z)

theorem cm_X8_add : ∀ pc q, kd_X8_add pc = some q → mm_ck 82 pc q = true := fun pc q h => by
  rcases Nat.lt_or_ge pc 53 with hl | hl
  · exact mm_ckp_at ck_X8_add_0 pc q (by omega) (by omega) h
  · exact absurd h (by unfold kd_X8_add; rw [mm_blt_f hl]; exact fun z => nomatch z)

theorem cm_X8_advance : ∀ pc q, kd_X8_advance pc = some q → mm_ck 83 pc q = true := fun pc q h => by
  rcases Nat.lt_or_ge pc 63 with hl | hl
  · exact mm_ckp_at ck_X8_advance_0 pc q (by omega) (by omega) h
  · exact absurd h (by unfold kd_X8_advance; rw [mm_blt_f hl]; exact fun z => nomatch z)

theorem cm_X8_fail : ∀ pc q, kd_X8_fail pc = some q → mm_ck 84 pc q = true := fun pc q h => by
  rcases Nat.lt_or_ge pc 15 with hl | hl
  · exact mm_ckp_at ck_X8_fail_0 pc q (by omega) (by omega) h
  · exact absurd h (by unfold kd_X8_fail; rw [mm_blt_f hl]; exact fun z => nomatch z)

theorem cm_X8_failAt : ∀ pc q, kd_X8_failAt pc = some q → mm_ck 85 pc q = true := fun pc q h => by
  rcases Nat.lt_or_ge pc 12 with hl | hl
  · exact mm_ckp_at ck_X8_failAt_0 pc q (by omega) (by omega) h
  · exact absurd h (by unfold kd_X8_failAt; rw [mm_blt_f hl]; exact fun z => nomatch z)

theorem cm_X8_isAt : ∀ pc q, kd_X8_isAt pc = some q → mm_ck 86 pc q = true := fun pc q h => by
  rcases Nat.lt_or_ge pc 22 with hl | hl
  · exact mm_ckp_at ck_X8_isAt_0 pc q (by omega) (by omega) h
  · exact absurd h (by unfold kd_X8_isAt; rw [mm_blt_f hl]; exact fun z => nomatch z)

theorem cm_X8_isEnded : ∀ pc q, kd_X8_isEnded pc = some q → mm_ck 87 pc q = true := fun pc q h => by
  rcases Nat.lt_or_ge pc 21 with hl | hl
  · exact mm_ckp_at ck_X8_isEnded_0 pc q (by omega) (by omega) h
  · exact absurd h (by unfold kd_X8_isEnded; rw [mm_blt_f hl]; exact fun z => nomatch z)

theorem cm_X8_isNumber : ∀ pc q, kd_X8_isNumber pc = some q → mm_ck 88 pc q = true := fun pc q h => by
  rcases Nat.lt_or_ge pc 44 with hl | hl
  · exact mm_ckp_at ck_X8_isNumber_0 pc q (by omega) (by omega) h
  · exact absurd h (by unfold kd_X8_isNumber; rw [mm_blt_f hl]; exact fun z => nomatch z)

theorem cm_X8_passWord : ∀ pc q, kd_X8_passWord pc = some q → mm_ck 89 pc q = true := fun pc q h => by
  rcases Nat.lt_or_ge pc 20 with hl | hl
  · exact mm_ckp_at ck_X8_passWord_0 pc q (by omega) (by omega) h
  · exact absurd h (by unfold kd_X8_passWord; rw [mm_blt_f hl]; exact fun z => nomatch z)

theorem cm_X8_passSign : ∀ pc q, kd_X8_passSign pc = some q → mm_ck 90 pc q = true := fun pc q h => by
  rcases Nat.lt_or_ge pc 20 with hl | hl
  · exact mm_ckp_at ck_X8_passSign_0 pc q (by omega) (by omega) h
  · exact absurd h (by unfold kd_X8_passSign; rw [mm_blt_f hl]; exact fun z => nomatch z)

theorem cm_X8_signAt : ∀ pc q, kd_X8_signAt pc = some q → mm_ck 91 pc q = true := fun pc q h => by
  rcases Nat.lt_or_ge pc 28 with hl | hl
  · exact mm_ckp_at ck_X8_signAt_0 pc q (by omega) (by omega) h
  · exact absurd h (by unfold kd_X8_signAt; rw [mm_blt_f hl]; exact fun z => nomatch z)

theorem cm_X8_isBlank : ∀ pc q, kd_X8_isBlank pc = some q → mm_ck 92 pc q = true := fun pc q h => by
  rcases Nat.lt_or_ge pc 18 with hl | hl
  · exact mm_ckp_at ck_X8_isBlank_0 pc q (by omega) (by omega) h
  · exact absurd h (by unfold kd_X8_isBlank; rw [mm_blt_f hl]; exact fun z => nomatch z)

theorem cm_X8_isLetter : ∀ pc q, kd_X8_isLetter pc = some q → mm_ck 93 pc q = true := fun pc q h => by
  rcases Nat.lt_or_ge pc 18 with hl | hl
  · exact mm_ckp_at ck_X8_isLetter_0 pc q (by omega) (by omega) h
  · exact absurd h (by unfold kd_X8_isLetter; rw [mm_blt_f hl]; exact fun z => nomatch z)

theorem cm_X8_isDigit : ∀ pc q, kd_X8_isDigit pc = some q → mm_ck 94 pc q = true := fun pc q h => by
  rcases Nat.lt_or_ge pc 18 with hl | hl
  · exact mm_ckp_at ck_X8_isDigit_0 pc q (by omega) (by omega) h
  · exact absurd h (by unfold kd_X8_isDigit; rw [mm_blt_f hl]; exact fun z => nomatch z)

theorem cm_X8_isSign : ∀ pc q, kd_X8_isSign pc = some q → mm_ck 95 pc q = true := fun pc q h => by
  rcases Nat.lt_or_ge pc 30 with hl | hl
  · exact mm_ckp_at ck_X8_isSign_0 pc q (by omega) (by omega) h
  · exact absurd h (by unfold kd_X8_isSign; rw [mm_blt_f hl]; exact fun z => nomatch z)

theorem cm_X8_isOfLanguage : ∀ pc q, kd_X8_isOfLanguage pc = some q → mm_ck 96 pc q = true := fun pc q h => by
  rcases Nat.lt_or_ge pc 35 with hl | hl
  · exact mm_ckp_at ck_X8_isOfLanguage_0 pc q (by omega) (by omega) h
  · exact absurd h (by unfold kd_X8_isOfLanguage; rw [mm_blt_f hl]; exact fun z => nomatch z)

theorem cm_X9_init : ∀ pc q, kd_X9_init pc = some q → mm_ck 97 pc q = true := fun pc q h => by
  rcases Nat.lt_or_ge pc 61 with hl | hl
  · exact mm_ckp_at ck_X9_init_0 pc q (by omega) (by omega) h
  · exact absurd h (by unfold kd_X9_init; rw [mm_blt_f hl]; exact fun z => nomatch z)

theorem cm_X9_read : ∀ pc q, kd_X9_read pc = some q → mm_ck 98 pc q = true := fun pc q h => by
  rcases Nat.lt_or_ge pc 29 with hl | hl
  · exact mm_ckp_at ck_X9_read_0 pc q (by omega) (by omega) h
  · exact absurd h (by unfold kd_X9_read; rw [mm_blt_f hl]; exact fun z => nomatch z)

theorem cm_X9_readSteps : ∀ pc q, kd_X9_readSteps pc = some q → mm_ck 99 pc q = true := fun pc q h => by
  rcases Nat.lt_or_ge pc 40 with hl | hl
  · exact mm_ckp_at ck_X9_readSteps_0 pc q (by omega) (by omega) h
  · exact absurd h (by unfold kd_X9_readSteps; rw [mm_blt_f hl]; exact fun z => nomatch z)

theorem cm_X9_readStep : ∀ pc q, kd_X9_readStep pc = some q → mm_ck 100 pc q = true := fun pc q h => by
  rcases Nat.lt_or_ge pc 144 with hl | hl
  · rcases Nat.lt_or_ge pc 100 with h0 | h0
    · exact mm_ckp_at ck_X9_readStep_0 pc q (by omega) (by omega) h
    · exact mm_ckp_at ck_X9_readStep_1 pc q (by omega) (by omega) h
  · exact absurd h (by unfold kd_X9_readStep; rw [mm_blt_f hl]; exact fun z => nomatch z)

theorem cm_X9_readPass : ∀ pc q, kd_X9_readPass pc = some q → mm_ck 101 pc q = true := fun pc q h => by
  rcases Nat.lt_or_ge pc 133 with hl | hl
  · rcases Nat.lt_or_ge pc 100 with h0 | h0
    · exact mm_ckp_at ck_X9_readPass_0 pc q (by omega) (by omega) h
    · exact mm_ckp_at ck_X9_readPass_1 pc q (by omega) (by omega) h
  · exact absurd h (by unfold kd_X9_readPass; rw [mm_blt_f hl]; exact fun z => nomatch z)

theorem cm_X9_readPack : ∀ pc q, kd_X9_readPack pc = some q → mm_ck 102 pc q = true := fun pc q h => by
  rcases Nat.lt_or_ge pc 65 with hl | hl
  · exact mm_ckp_at ck_X9_readPack_0 pc q (by omega) (by omega) h
  · exact absurd h (by unfold kd_X9_readPack; rw [mm_blt_f hl]; exact fun z => nomatch z)

theorem cm_X9_readNeedle : ∀ pc q, kd_X9_readNeedle pc = some q → mm_ck 103 pc q = true := fun pc q h => by
  rcases Nat.lt_or_ge pc 146 with hl | hl
  · rcases Nat.lt_or_ge pc 100 with h0 | h0
    · exact mm_ckp_at ck_X9_readNeedle_0 pc q (by omega) (by omega) h
    · exact mm_ckp_at ck_X9_readNeedle_1 pc q (by omega) (by omega) h
  · exact absurd h (by unfold kd_X9_readNeedle; rw [mm_blt_f hl]; exact fun z => nomatch z)

theorem cm_X9_readJoin : ∀ pc q, kd_X9_readJoin pc = some q → mm_ck 104 pc q = true := fun pc q h => by
  rcases Nat.lt_or_ge pc 64 with hl | hl
  · exact mm_ckp_at ck_X9_readJoin_0 pc q (by omega) (by omega) h
  · exact absurd h (by unfold kd_X9_readJoin; rw [mm_blt_f hl]; exact fun z => nomatch z)

theorem cm_X9_readAgain : ∀ pc q, kd_X9_readAgain pc = some q → mm_ck 105 pc q = true := fun pc q h => by
  rcases Nat.lt_or_ge pc 86 with hl | hl
  · exact mm_ckp_at ck_X9_readAgain_0 pc q (by omega) (by omega) h
  · exact absurd h (by unfold kd_X9_readAgain; rw [mm_blt_f hl]; exact fun z => nomatch z)

theorem cm_X9_isDoneBy : ∀ pc q, kd_X9_isDoneBy pc = some q → mm_ck 106 pc q = true := fun pc q h => by
  rcases Nat.lt_or_ge pc 39 with hl | hl
  · exact mm_ckp_at ck_X9_isDoneBy_0 pc q (by omega) (by omega) h
  · exact absurd h (by unfold kd_X9_isDoneBy; rw [mm_blt_f hl]; exact fun z => nomatch z)

theorem cm_X9_doSteps : ∀ pc q, kd_X9_doSteps pc = some q → mm_ck 107 pc q = true := fun pc q h => by
  rcases Nat.lt_or_ge pc 87 with hl | hl
  · exact mm_ckp_at ck_X9_doSteps_0 pc q (by omega) (by omega) h
  · exact absurd h (by unfold kd_X9_doSteps; rw [mm_blt_f hl]; exact fun z => nomatch z)

theorem cm_X9_doStep : ∀ pc q, kd_X9_doStep pc = some q → mm_ck 108 pc q = true := fun pc q h => by
  rcases Nat.lt_or_ge pc 134 with hl | hl
  · rcases Nat.lt_or_ge pc 100 with h0 | h0
    · exact mm_ckp_at ck_X9_doStep_0 pc q (by omega) (by omega) h
    · exact mm_ckp_at ck_X9_doStep_1 pc q (by omega) (by omega) h
  · exact absurd h (by unfold kd_X9_doStep; rw [mm_blt_f hl]; exact fun z => nomatch z)

theorem cm_X10_init : ∀ pc q, kd_X10_init pc = some q → mm_ck 109 pc q = true := fun pc q h => by
  rcases Nat.lt_or_ge pc 142 with hl | hl
  · rcases Nat.lt_or_ge pc 100 with h0 | h0
    · exact mm_ckp_at ck_X10_init_0 pc q (by omega) (by omega) h
    · exact mm_ckp_at ck_X10_init_1 pc q (by omega) (by omega) h
  · exact absurd h (by unfold kd_X10_init; rw [mm_blt_f hl]; exact fun z => nomatch z)

theorem cm_X10_feed : ∀ pc q, kd_X10_feed pc = some q → mm_ck 110 pc q = true := fun pc q h => by
  rcases Nat.lt_or_ge pc 65 with hl | hl
  · exact mm_ckp_at ck_X10_feed_0 pc q (by omega) (by omega) h
  · exact absurd h (by unfold kd_X10_feed; rw [mm_blt_f hl]; exact fun z => nomatch z)

theorem cm_X10_plan : ∀ pc q, kd_X10_plan pc = some q → mm_ck 111 pc q = true := fun pc q h => by
  rcases Nat.lt_or_ge pc 83 with hl | hl
  · exact mm_ckp_at ck_X10_plan_0 pc q (by omega) (by omega) h
  · exact absurd h (by unfold kd_X10_plan; rw [mm_blt_f hl]; exact fun z => nomatch z)

theorem cm_X10_work : ∀ pc q, kd_X10_work pc = some q → mm_ck 112 pc q = true := fun pc q h => by
  rcases Nat.lt_or_ge pc 80 with hl | hl
  · exact mm_ckp_at ck_X10_work_0 pc q (by omega) (by omega) h
  · exact absurd h (by unfold kd_X10_work; rw [mm_blt_f hl]; exact fun z => nomatch z)

theorem cm_X10_question : ∀ pc q, kd_X10_question pc = some q → mm_ck 113 pc q = true := fun pc q h => by
  rcases Nat.lt_or_ge pc 60 with hl | hl
  · exact mm_ckp_at ck_X10_question_0 pc q (by omega) (by omega) h
  · exact absurd h (by unfold kd_X10_question; rw [mm_blt_f hl]; exact fun z => nomatch z)

theorem cm_X10_fault : ∀ pc q, kd_X10_fault pc = some q → mm_ck 114 pc q = true := fun pc q h => by
  rcases Nat.lt_or_ge pc 29 with hl | hl
  · exact mm_ckp_at ck_X10_fault_0 pc q (by omega) (by omega) h
  · exact absurd h (by unfold kd_X10_fault; rw [mm_blt_f hl]; exact fun z => nomatch z)

theorem cm_X10_named : ∀ pc q, kd_X10_named pc = some q → mm_ck 115 pc q = true := fun pc q h => by
  rcases Nat.lt_or_ge pc 31 with hl | hl
  · exact mm_ckp_at ck_X10_named_0 pc q (by omega) (by omega) h
  · exact absurd h (by unfold kd_X10_named; rw [mm_blt_f hl]; exact fun z => nomatch z)

theorem cm_X10_code : ∀ pc q, kd_X10_code pc = some q → mm_ck 116 pc q = true := fun pc q h => by
  rcases Nat.lt_or_ge pc 10 with hl | hl
  · exact mm_ckp_at ck_X10_code_0 pc q (by omega) (by omega) h
  · exact absurd h (by unfold kd_X10_code; rw [mm_blt_f hl]; exact fun z => nomatch z)

theorem cm_X10_coded : ∀ pc q, kd_X10_coded pc = some q → mm_ck 117 pc q = true := fun pc q h => by
  rcases Nat.lt_or_ge pc 36 with hl | hl
  · exact mm_ckp_at ck_X10_coded_0 pc q (by omega) (by omega) h
  · exact absurd h (by unfold kd_X10_coded; rw [mm_blt_f hl]; exact fun z => nomatch z)

theorem cm_X10_card : ∀ pc q, kd_X10_card pc = some q → mm_ck 118 pc q = true := fun pc q h => by
  rcases Nat.lt_or_ge pc 40 with hl | hl
  · exact mm_ckp_at ck_X10_card_0 pc q (by omega) (by omega) h
  · exact absurd h (by unfold kd_X10_card; rw [mm_blt_f hl]; exact fun z => nomatch z)

theorem cm_X10_set : ∀ pc q, kd_X10_set pc = some q → mm_ck 119 pc q = true := fun pc q h => by
  rcases Nat.lt_or_ge pc 34 with hl | hl
  · exact mm_ckp_at ck_X10_set_0 pc q (by omega) (by omega) h
  · exact absurd h (by unfold kd_X10_set; rw [mm_blt_f hl]; exact fun z => nomatch z)

theorem cm_X10_put : ∀ pc q, kd_X10_put pc = some q → mm_ck 120 pc q = true := fun pc q h => by
  rcases Nat.lt_or_ge pc 33 with hl | hl
  · exact mm_ckp_at ck_X10_put_0 pc q (by omega) (by omega) h
  · exact absurd h (by unfold kd_X10_put; rw [mm_blt_f hl]; exact fun z => nomatch z)

theorem cm_X10_tear : ∀ pc q, kd_X10_tear pc = some q → mm_ck 121 pc q = true := fun pc q h => by
  rcases Nat.lt_or_ge pc 45 with hl | hl
  · exact mm_ckp_at ck_X10_tear_0 pc q (by omega) (by omega) h
  · exact absurd h (by unfold kd_X10_tear; rw [mm_blt_f hl]; exact fun z => nomatch z)

theorem cm_X10_recode : ∀ pc q, kd_X10_recode pc = some q → mm_ck 122 pc q = true := fun pc q h => by
  rcases Nat.lt_or_ge pc 37 with hl | hl
  · exact mm_ckp_at ck_X10_recode_0 pc q (by omega) (by omega) h
  · exact absurd h (by unfold kd_X10_recode; rw [mm_blt_f hl]; exact fun z => nomatch z)

theorem cm_X10_strike : ∀ pc q, kd_X10_strike pc = some q → mm_ck 123 pc q = true := fun pc q h => by
  rcases Nat.lt_or_ge pc 29 with hl | hl
  · exact mm_ckp_at ck_X10_strike_0 pc q (by omega) (by omega) h
  · exact absurd h (by unfold kd_X10_strike; rw [mm_blt_f hl]; exact fun z => nomatch z)

theorem cm_X10_notched : ∀ pc q, kd_X10_notched pc = some q → mm_ck 124 pc q = true := fun pc q h => by
  rcases Nat.lt_or_ge pc 35 with hl | hl
  · exact mm_ckp_at ck_X10_notched_0 pc q (by omega) (by omega) h
  · exact absurd h (by unfold kd_X10_notched; rw [mm_blt_f hl]; exact fun z => nomatch z)

theorem cm_X10_truly : ∀ pc q, kd_X10_truly pc = some q → mm_ck 125 pc q = true := fun pc q h => by
  rcases Nat.lt_or_ge pc 75 with hl | hl
  · exact mm_ckp_at ck_X10_truly_0 pc q (by omega) (by omega) h
  · exact absurd h (by unfold kd_X10_truly; rw [mm_blt_f hl]; exact fun z => nomatch z)

theorem cm_X10_turn : ∀ pc q, kd_X10_turn pc = some q → mm_ck 126 pc q = true := fun pc q h => by
  rcases Nat.lt_or_ge pc 27 with hl | hl
  · exact mm_ckp_at ck_X10_turn_0 pc q (by omega) (by omega) h
  · exact absurd h (by unfold kd_X10_turn; rw [mm_blt_f hl]; exact fun z => nomatch z)

theorem cm_X10_turned : ∀ pc q, kd_X10_turned pc = some q → mm_ck 127 pc q = true := fun pc q h => by
  rcases Nat.lt_or_ge pc 8 with hl | hl
  · exact mm_ckp_at ck_X10_turned_0 pc q (by omega) (by omega) h
  · exact absurd h (by unfold kd_X10_turned; rw [mm_blt_f hl]; exact fun z => nomatch z)

theorem cm_X10_pack : ∀ pc q, kd_X10_pack pc = some q → mm_ck 128 pc q = true := fun pc q h => by
  rcases Nat.lt_or_ge pc 38 with hl | hl
  · exact mm_ckp_at ck_X10_pack_0 pc q (by omega) (by omega) h
  · exact absurd h (by unfold kd_X10_pack; rw [mm_blt_f hl]; exact fun z => nomatch z)

theorem cm_X10_drops : ∀ pc q, kd_X10_drops pc = some q → mm_ck 129 pc q = true := fun pc q h => by
  rcases Nat.lt_or_ge pc 55 with hl | hl
  · exact mm_ckp_at ck_X10_drops_0 pc q (by omega) (by omega) h
  · exact absurd h (by unfold kd_X10_drops; rw [mm_blt_f hl]; exact fun z => nomatch z)

theorem cm_X10_gather : ∀ pc q, kd_X10_gather pc = some q → mm_ck 130 pc q = true := fun pc q h => by
  rcases Nat.lt_or_ge pc 37 with hl | hl
  · exact mm_ckp_at ck_X10_gather_0 pc q (by omega) (by omega) h
  · exact absurd h (by unfold kd_X10_gather; rw [mm_blt_f hl]; exact fun z => nomatch z)

theorem cm_X10_ask : ∀ pc q, kd_X10_ask pc = some q → mm_ck 131 pc q = true := fun pc q h => by
  rcases Nat.lt_or_ge pc 123 with hl | hl
  · rcases Nat.lt_or_ge pc 100 with h0 | h0
    · exact mm_ckp_at ck_X10_ask_0 pc q (by omega) (by omega) h
    · exact mm_ckp_at ck_X10_ask_1 pc q (by omega) (by omega) h
  · exact absurd h (by unfold kd_X10_ask; rw [mm_blt_f hl]; exact fun z => nomatch z)

theorem cm_X10_likely : ∀ pc q, kd_X10_likely pc = some q → mm_ck 132 pc q = true := fun pc q h => by
  rcases Nat.lt_or_ge pc 150 with hl | hl
  · rcases Nat.lt_or_ge pc 100 with h0 | h0
    · exact mm_ckp_at ck_X10_likely_0 pc q (by omega) (by omega) h
    · exact mm_ckp_at ck_X10_likely_1 pc q (by omega) (by omega) h
  · exact absurd h (by unfold kd_X10_likely; rw [mm_blt_f hl]; exact fun z => nomatch z)

theorem cm_X10_falsely : ∀ pc q, kd_X10_falsely pc = some q → mm_ck 133 pc q = true := fun pc q h => by
  rcases Nat.lt_or_ge pc 85 with hl | hl
  · exact mm_ckp_at ck_X10_falsely_0 pc q (by omega) (by omega) h
  · exact absurd h (by unfold kd_X10_falsely; rw [mm_blt_f hl]; exact fun z => nomatch z)

theorem cm_X10_best : ∀ pc q, kd_X10_best pc = some q → mm_ck 134 pc q = true := fun pc q h => by
  rcases Nat.lt_or_ge pc 47 with hl | hl
  · exact mm_ckp_at ck_X10_best_0 pc q (by omega) (by omega) h
  · exact absurd h (by unfold kd_X10_best; rw [mm_blt_f hl]; exact fun z => nomatch z)

theorem cm_X10_means : ∀ pc q, kd_X10_means pc = some q → mm_ck 135 pc q = true := fun pc q h => by
  rcases Nat.lt_or_ge pc 150 with hl | hl
  · rcases Nat.lt_or_ge pc 100 with h0 | h0
    · exact mm_ckp_at ck_X10_means_0 pc q (by omega) (by omega) h
    · exact mm_ckp_at ck_X10_means_1 pc q (by omega) (by omega) h
  · exact absurd h (by unfold kd_X10_means; rw [mm_blt_f hl]; exact fun z => nomatch z)

theorem cm_X10_behind : ∀ pc q, kd_X10_behind pc = some q → mm_ck 136 pc q = true := fun pc q h => by
  rcases Nat.lt_or_ge pc 64 with hl | hl
  · exact mm_ckp_at ck_X10_behind_0 pc q (by omega) (by omega) h
  · exact absurd h (by unfold kd_X10_behind; rw [mm_blt_f hl]; exact fun z => nomatch z)

theorem cm_X10_sort : ∀ pc q, kd_X10_sort pc = some q → mm_ck 137 pc q = true := fun pc q h => by
  rcases Nat.lt_or_ge pc 154 with hl | hl
  · rcases Nat.lt_or_ge pc 100 with h0 | h0
    · exact mm_ckp_at ck_X10_sort_0 pc q (by omega) (by omega) h
    · exact mm_ckp_at ck_X10_sort_1 pc q (by omega) (by omega) h
  · exact absurd h (by unfold kd_X10_sort; rw [mm_blt_f hl]; exact fun z => nomatch z)

theorem cm_X10_count : ∀ pc q, kd_X10_count pc = some q → mm_ck 138 pc q = true := fun pc q h => by
  rcases Nat.lt_or_ge pc 111 with hl | hl
  · rcases Nat.lt_or_ge pc 100 with h0 | h0
    · exact mm_ckp_at ck_X10_count_0 pc q (by omega) (by omega) h
    · exact mm_ckp_at ck_X10_count_1 pc q (by omega) (by omega) h
  · exact absurd h (by unfold kd_X10_count; rw [mm_blt_f hl]; exact fun z => nomatch z)

theorem cm_X10_isBy : ∀ pc q, kd_X10_isBy pc = some q → mm_ck 139 pc q = true := fun pc q h => by
  rcases Nat.lt_or_ge pc 21 with hl | hl
  · exact mm_ckp_at ck_X10_isBy_0 pc q (by omega) (by omega) h
  · exact absurd h (by unfold kd_X10_isBy; rw [mm_blt_f hl]; exact fun z => nomatch z)

theorem cm_X10_isCard : ∀ pc q, kd_X10_isCard pc = some q → mm_ck 140 pc q = true := fun pc q h => by
  rcases Nat.lt_or_ge pc 18 with hl | hl
  · exact mm_ckp_at ck_X10_isCard_0 pc q (by omega) (by omega) h
  · exact absurd h (by unfold kd_X10_isCard; rw [mm_blt_f hl]; exact fun z => nomatch z)

theorem cm_X10_know : ∀ pc q, kd_X10_know pc = some q → mm_ck 141 pc q = true := fun pc q h => by
  rcases Nat.lt_or_ge pc 17 with hl | hl
  · exact mm_ckp_at ck_X10_know_0 pc q (by omega) (by omega) h
  · exact absurd h (by unfold kd_X10_know; rw [mm_blt_f hl]; exact fun z => nomatch z)

theorem cm_X10_knowAll : ∀ pc q, kd_X10_knowAll pc = some q → mm_ck 142 pc q = true := fun pc q h => by
  rcases Nat.lt_or_ge pc 23 with hl | hl
  · exact mm_ckp_at ck_X10_knowAll_0 pc q (by omega) (by omega) h
  · exact absurd h (by unfold kd_X10_knowAll; rw [mm_blt_f hl]; exact fun z => nomatch z)

theorem cm_X10_isPack : ∀ pc q, kd_X10_isPack pc = some q → mm_ck 143 pc q = true := fun pc q h => by
  rcases Nat.lt_or_ge pc 16 with hl | hl
  · exact mm_ckp_at ck_X10_isPack_0 pc q (by omega) (by omega) h
  · exact absurd h (by unfold kd_X10_isPack; rw [mm_blt_f hl]; exact fun z => nomatch z)

theorem cm_X10_span : ∀ pc q, kd_X10_span pc = some q → mm_ck 144 pc q = true := fun pc q h => by
  rcases Nat.lt_or_ge pc 12 with hl | hl
  · exact mm_ckp_at ck_X10_span_0 pc q (by omega) (by omega) h
  · exact absurd h (by unfold kd_X10_span; rw [mm_blt_f hl]; exact fun z => nomatch z)

theorem cm_X10_ways : ∀ pc q, kd_X10_ways pc = some q → mm_ck 145 pc q = true := fun pc q h => by
  rcases Nat.lt_or_ge pc 42 with hl | hl
  · exact mm_ckp_at ck_X10_ways_0 pc q (by omega) (by omega) h
  · exact absurd h (by unfold kd_X10_ways; rw [mm_blt_f hl]; exact fun z => nomatch z)

theorem cm_X11_init : ∀ pc q, kd_X11_init pc = some q → mm_ck 146 pc q = true := fun pc q h => by
  rcases Nat.lt_or_ge pc 914 with hl | hl
  · rcases Nat.lt_or_ge pc 100 with h0 | h0
    · exact mm_ckp_at ck_X11_init_0 pc q (by omega) (by omega) h
    · rcases Nat.lt_or_ge pc 200 with h1 | h1
      · exact mm_ckp_at ck_X11_init_1 pc q (by omega) (by omega) h
      · rcases Nat.lt_or_ge pc 300 with h2 | h2
        · exact mm_ckp_at ck_X11_init_2 pc q (by omega) (by omega) h
        · rcases Nat.lt_or_ge pc 400 with h3 | h3
          · exact mm_ckp_at ck_X11_init_3 pc q (by omega) (by omega) h
          · rcases Nat.lt_or_ge pc 500 with h4 | h4
            · exact mm_ckp_at ck_X11_init_4 pc q (by omega) (by omega) h
            · rcases Nat.lt_or_ge pc 600 with h5 | h5
              · exact mm_ckp_at ck_X11_init_5 pc q (by omega) (by omega) h
              · rcases Nat.lt_or_ge pc 700 with h6 | h6
                · exact mm_ckp_at ck_X11_init_6 pc q (by omega) (by omega) h
                · rcases Nat.lt_or_ge pc 800 with h7 | h7
                  · exact mm_ckp_at ck_X11_init_7 pc q (by omega) (by omega) h
                  · rcases Nat.lt_or_ge pc 900 with h8 | h8
                    · exact mm_ckp_at ck_X11_init_8 pc q (by omega) (by omega) h
                    · exact mm_ckp_at ck_X11_init_9 pc q (by omega) (by omega) h
  · exact absurd h (by unfold kd_X11_init; rw [mm_blt_f hl]; exact fun z => nomatch z)

theorem cm_X11_feed : ∀ pc q, kd_X11_feed pc = some q → mm_ck 147 pc q = true := fun pc q h => by
  rcases Nat.lt_or_ge pc 129 with hl | hl
  · rcases Nat.lt_or_ge pc 100 with h0 | h0
    · exact mm_ckp_at ck_X11_feed_0 pc q (by omega) (by omega) h
    · exact mm_ckp_at ck_X11_feed_1 pc q (by omega) (by omega) h
  · exact absurd h (by unfold kd_X11_feed; rw [mm_blt_f hl]; exact fun z => nomatch z)

theorem cm_X11_isIn : ∀ pc q, kd_X11_isIn pc = some q → mm_ck 148 pc q = true := fun pc q h => by
  rcases Nat.lt_or_ge pc 16 with hl | hl
  · exact mm_ckp_at ck_X11_isIn_0 pc q (by omega) (by omega) h
  · exact absurd h (by unfold kd_X11_isIn; rw [mm_blt_f hl]; exact fun z => nomatch z)

theorem cm_X11_isOf : ∀ pc q, kd_X11_isOf pc = some q → mm_ck 149 pc q = true := fun pc q h => by
  rcases Nat.lt_or_ge pc 16 with hl | hl
  · exact mm_ckp_at ck_X11_isOf_0 pc q (by omega) (by omega) h
  · exact absurd h (by unfold kd_X11_isOf; rw [mm_blt_f hl]; exact fun z => nomatch z)

theorem cm_X11_many : ∀ pc q, kd_X11_many pc = some q → mm_ck 150 pc q = true := fun pc q h => by
  rcases Nat.lt_or_ge pc 34 with hl | hl
  · exact mm_ckp_at ck_X11_many_0 pc q (by omega) (by omega) h
  · exact absurd h (by unfold kd_X11_many; rw [mm_blt_f hl]; exact fun z => nomatch z)

theorem cm_X11_wrong : ∀ pc q, kd_X11_wrong pc = some q → mm_ck 151 pc q = true := fun pc q h => by
  rcases Nat.lt_or_ge pc 15 with hl | hl
  · exact mm_ckp_at ck_X11_wrong_0 pc q (by omega) (by omega) h
  · exact absurd h (by unfold kd_X11_wrong; rw [mm_blt_f hl]; exact fun z => nomatch z)

theorem cm_X11_wordAt : ∀ pc q, kd_X11_wordAt pc = some q → mm_ck 152 pc q = true := fun pc q h => by
  rcases Nat.lt_or_ge pc 128 with hl | hl
  · rcases Nat.lt_or_ge pc 100 with h0 | h0
    · exact mm_ckp_at ck_X11_wordAt_0 pc q (by omega) (by omega) h
    · exact mm_ckp_at ck_X11_wordAt_1 pc q (by omega) (by omega) h
  · exact absurd h (by unfold kd_X11_wordAt; rw [mm_blt_f hl]; exact fun z => nomatch z)

theorem cm_X11_isSmall : ∀ pc q, kd_X11_isSmall pc = some q → mm_ck 153 pc q = true := fun pc q h => by
  rcases Nat.lt_or_ge pc 36 with hl | hl
  · exact mm_ckp_at ck_X11_isSmall_0 pc q (by omega) (by omega) h
  · exact absurd h (by unfold kd_X11_isSmall; rw [mm_blt_f hl]; exact fun z => nomatch z)

theorem cm_X11_isDigit : ∀ pc q, kd_X11_isDigit pc = some q → mm_ck 154 pc q = true := fun pc q h => by
  rcases Nat.lt_or_ge pc 36 with hl | hl
  · exact mm_ckp_at ck_X11_isDigit_0 pc q (by omega) (by omega) h
  · exact absurd h (by unfold kd_X11_isDigit; rw [mm_blt_f hl]; exact fun z => nomatch z)

theorem cm_X11_take : ∀ pc q, kd_X11_take pc = some q → mm_ck 155 pc q = true := fun pc q h => by
  rcases Nat.lt_or_ge pc 345 with hl | hl
  · rcases Nat.lt_or_ge pc 100 with h0 | h0
    · exact mm_ckp_at ck_X11_take_0 pc q (by omega) (by omega) h
    · rcases Nat.lt_or_ge pc 200 with h1 | h1
      · exact mm_ckp_at ck_X11_take_1 pc q (by omega) (by omega) h
      · rcases Nat.lt_or_ge pc 300 with h2 | h2
        · exact mm_ckp_at ck_X11_take_2 pc q (by omega) (by omega) h
        · exact mm_ckp_at ck_X11_take_3 pc q (by omega) (by omega) h
  · exact absurd h (by unfold kd_X11_take; rw [mm_blt_f hl]; exact fun z => nomatch z)

theorem cm_X11_packed : ∀ pc q, kd_X11_packed pc = some q → mm_ck 156 pc q = true := fun pc q h => by
  rcases Nat.lt_or_ge pc 47 with hl | hl
  · exact mm_ckp_at ck_X11_packed_0 pc q (by omega) (by omega) h
  · exact absurd h (by unfold kd_X11_packed; rw [mm_blt_f hl]; exact fun z => nomatch z)

theorem cm_X11_isKey : ∀ pc q, kd_X11_isKey pc = some q → mm_ck 157 pc q = true := fun pc q h => by
  rcases Nat.lt_or_ge pc 22 with hl | hl
  · exact mm_ckp_at ck_X11_isKey_0 pc q (by omega) (by omega) h
  · exact absurd h (by unfold kd_X11_isKey; rw [mm_blt_f hl]; exact fun z => nomatch z)

theorem cm_X11_isSign : ∀ pc q, kd_X11_isSign pc = some q → mm_ck 158 pc q = true := fun pc q h => by
  rcases Nat.lt_or_ge pc 22 with hl | hl
  · exact mm_ckp_at ck_X11_isSign_0 pc q (by omega) (by omega) h
  · exact absurd h (by unfold kd_X11_isSign; rw [mm_blt_f hl]; exact fun z => nomatch z)

theorem cm_X11_signRead : ∀ pc q, kd_X11_signRead pc = some q → mm_ck 159 pc q = true := fun pc q h => by
  rcases Nat.lt_or_ge pc 20 with hl | hl
  · exact mm_ckp_at ck_X11_signRead_0 pc q (by omega) (by omega) h
  · exact absurd h (by unfold kd_X11_signRead; rw [mm_blt_f hl]; exact fun z => nomatch z)

theorem cm_X11_keyRead : ∀ pc q, kd_X11_keyRead pc = some q → mm_ck 160 pc q = true := fun pc q h => by
  rcases Nat.lt_or_ge pc 20 with hl | hl
  · exact mm_ckp_at ck_X11_keyRead_0 pc q (by omega) (by omega) h
  · exact absurd h (by unfold kd_X11_keyRead; rw [mm_blt_f hl]; exact fun z => nomatch z)

theorem cm_X11_numberRead : ∀ pc q, kd_X11_numberRead pc = some q → mm_ck 161 pc q = true := fun pc q h => by
  rcases Nat.lt_or_ge pc 44 with hl | hl
  · exact mm_ckp_at ck_X11_numberRead_0 pc q (by omega) (by omega) h
  · exact absurd h (by unfold kd_X11_numberRead; rw [mm_blt_f hl]; exact fun z => nomatch z)

theorem cm_X11_begins : ∀ pc q, kd_X11_begins pc = some q → mm_ck 162 pc q = true := fun pc q h => by
  rcases Nat.lt_or_ge pc 45 with hl | hl
  · exact mm_ckp_at ck_X11_begins_0 pc q (by omega) (by omega) h
  · exact absurd h (by unfold kd_X11_begins; rw [mm_blt_f hl]; exact fun z => nomatch z)

theorem cm_X11_plain : ∀ pc q, kd_X11_plain pc = some q → mm_ck 163 pc q = true := fun pc q h => by
  rcases Nat.lt_or_ge pc 22 with hl | hl
  · exact mm_ckp_at ck_X11_plain_0 pc q (by omega) (by omega) h
  · exact absurd h (by unfold kd_X11_plain; rw [mm_blt_f hl]; exact fun z => nomatch z)

theorem cm_X11_keep : ∀ pc q, kd_X11_keep pc = some q → mm_ck 164 pc q = true := fun pc q h => by
  rcases Nat.lt_or_ge pc 219 with hl | hl
  · rcases Nat.lt_or_ge pc 100 with h0 | h0
    · exact mm_ckp_at ck_X11_keep_0 pc q (by omega) (by omega) h
    · rcases Nat.lt_or_ge pc 200 with h1 | h1
      · exact mm_ckp_at ck_X11_keep_1 pc q (by omega) (by omega) h
      · exact mm_ckp_at ck_X11_keep_2 pc q (by omega) (by omega) h
  · exact absurd h (by unfold kd_X11_keep; rw [mm_blt_f hl]; exact fun z => nomatch z)

theorem cm_X11_fieldRead : ∀ pc q, kd_X11_fieldRead pc = some q → mm_ck 165 pc q = true := fun pc q h => by
  rcases Nat.lt_or_ge pc 33 with hl | hl
  · exact mm_ckp_at ck_X11_fieldRead_0 pc q (by omega) (by omega) h
  · exact absurd h (by unfold kd_X11_fieldRead; rw [mm_blt_f hl]; exact fun z => nomatch z)

theorem cm_X11_isNamed : ∀ pc q, kd_X11_isNamed pc = some q → mm_ck 166 pc q = true := fun pc q h => by
  rcases Nat.lt_or_ge pc 45 with hl | hl
  · exact mm_ckp_at ck_X11_isNamed_0 pc q (by omega) (by omega) h
  · exact absurd h (by unfold kd_X11_isNamed; rw [mm_blt_f hl]; exact fun z => nomatch z)

theorem cm_X11_between : ∀ pc q, kd_X11_between pc = some q → mm_ck 167 pc q = true := fun pc q h => by
  rcases Nat.lt_or_ge pc 26 with hl | hl
  · exact mm_ckp_at ck_X11_between_0 pc q (by omega) (by omega) h
  · exact absurd h (by unfold kd_X11_between; rw [mm_blt_f hl]; exact fun z => nomatch z)

theorem cm_X11_newName : ∀ pc q, kd_X11_newName pc = some q → mm_ck 168 pc q = true := fun pc q h => by
  rcases Nat.lt_or_ge pc 39 with hl | hl
  · exact mm_ckp_at ck_X11_newName_0 pc q (by omega) (by omega) h
  · exact absurd h (by unfold kd_X11_newName; rw [mm_blt_f hl]; exact fun z => nomatch z)

theorem cm_X11_fieldLine : ∀ pc q, kd_X11_fieldLine pc = some q → mm_ck 169 pc q = true := fun pc q h => by
  rcases Nat.lt_or_ge pc 384 with hl | hl
  · rcases Nat.lt_or_ge pc 100 with h0 | h0
    · exact mm_ckp_at ck_X11_fieldLine_0 pc q (by omega) (by omega) h
    · rcases Nat.lt_or_ge pc 200 with h1 | h1
      · exact mm_ckp_at ck_X11_fieldLine_1 pc q (by omega) (by omega) h
      · rcases Nat.lt_or_ge pc 300 with h2 | h2
        · exact mm_ckp_at ck_X11_fieldLine_2 pc q (by omega) (by omega) h
        · exact mm_ckp_at ck_X11_fieldLine_3 pc q (by omega) (by omega) h
  · exact absurd h (by unfold kd_X11_fieldLine; rw [mm_blt_f hl]; exact fun z => nomatch z)

theorem cm_X11_wordLine : ∀ pc q, kd_X11_wordLine pc = some q → mm_ck 170 pc q = true := fun pc q h => by
  rcases Nat.lt_or_ge pc 298 with hl | hl
  · rcases Nat.lt_or_ge pc 100 with h0 | h0
    · exact mm_ckp_at ck_X11_wordLine_0 pc q (by omega) (by omega) h
    · rcases Nat.lt_or_ge pc 200 with h1 | h1
      · exact mm_ckp_at ck_X11_wordLine_1 pc q (by omega) (by omega) h
      · exact mm_ckp_at ck_X11_wordLine_2 pc q (by omega) (by omega) h
  · exact absurd h (by unfold kd_X11_wordLine; rw [mm_blt_f hl]; exact fun z => nomatch z)

theorem cm_X11_lineRead : ∀ pc q, kd_X11_lineRead pc = some q → mm_ck 171 pc q = true := fun pc q h => by
  rcases Nat.lt_or_ge pc 116 with hl | hl
  · rcases Nat.lt_or_ge pc 100 with h0 | h0
    · exact mm_ckp_at ck_X11_lineRead_0 pc q (by omega) (by omega) h
    · exact mm_ckp_at ck_X11_lineRead_1 pc q (by omega) (by omega) h
  · exact absurd h (by unfold kd_X11_lineRead; rw [mm_blt_f hl]; exact fun z => nomatch z)

theorem cm_X11_plan : ∀ pc q, kd_X11_plan pc = some q → mm_ck 172 pc q = true := fun pc q h => by
  rcases Nat.lt_or_ge pc 59 with hl | hl
  · exact mm_ckp_at ck_X11_plan_0 pc q (by omega) (by omega) h
  · exact absurd h (by unfold kd_X11_plan; rw [mm_blt_f hl]; exact fun z => nomatch z)

theorem cm_X11_fault : ∀ pc q, kd_X11_fault pc = some q → mm_ck 173 pc q = true := fun pc q h => by
  rcases Nat.lt_or_ge pc 30 with hl | hl
  · exact mm_ckp_at ck_X11_fault_0 pc q (by omega) (by omega) h
  · exact absurd h (by unfold kd_X11_fault; rw [mm_blt_f hl]; exact fun z => nomatch z)

theorem cm_X11_fieldOf : ∀ pc q, kd_X11_fieldOf pc = some q → mm_ck 174 pc q = true := fun pc q h => by
  rcases Nat.lt_or_ge pc 30 with hl | hl
  · exact mm_ckp_at ck_X11_fieldOf_0 pc q (by omega) (by omega) h
  · exact absurd h (by unfold kd_X11_fieldOf; rw [mm_blt_f hl]; exact fun z => nomatch z)

theorem cm_X11_wordOf : ∀ pc q, kd_X11_wordOf pc = some q → mm_ck 175 pc q = true := fun pc q h => by
  rcases Nat.lt_or_ge pc 30 with hl | hl
  · exact mm_ckp_at ck_X11_wordOf_0 pc q (by omega) (by omega) h
  · exact absurd h (by unfold kd_X11_wordOf; rw [mm_blt_f hl]; exact fun z => nomatch z)

theorem cm_X11_named : ∀ pc q, kd_X11_named pc = some q → mm_ck 176 pc q = true := fun pc q h => by
  rcases Nat.lt_or_ge pc 32 with hl | hl
  · exact mm_ckp_at ck_X11_named_0 pc q (by omega) (by omega) h
  · exact absurd h (by unfold kd_X11_named; rw [mm_blt_f hl]; exact fun z => nomatch z)

theorem cm_X11_isField : ∀ pc q, kd_X11_isField pc = some q → mm_ck 177 pc q = true := fun pc q h => by
  rcases Nat.lt_or_ge pc 18 with hl | hl
  · exact mm_ckp_at ck_X11_isField_0 pc q (by omega) (by omega) h
  · exact absurd h (by unfold kd_X11_isField; rw [mm_blt_f hl]; exact fun z => nomatch z)

theorem cm_X11_isValued : ∀ pc q, kd_X11_isValued pc = some q → mm_ck 178 pc q = true := fun pc q h => by
  rcases Nat.lt_or_ge pc 24 with hl | hl
  · exact mm_ckp_at ck_X11_isValued_0 pc q (by omega) (by omega) h
  · exact absurd h (by unfold kd_X11_isValued; rw [mm_blt_f hl]; exact fun z => nomatch z)

theorem cm_X11_isWord : ∀ pc q, kd_X11_isWord pc = some q → mm_ck 179 pc q = true := fun pc q h => by
  rcases Nat.lt_or_ge pc 18 with hl | hl
  · exact mm_ckp_at ck_X11_isWord_0 pc q (by omega) (by omega) h
  · exact absurd h (by unfold kd_X11_isWord; rw [mm_blt_f hl]; exact fun z => nomatch z)

theorem cm_X11_fails : ∀ pc q, kd_X11_fails pc = some q → mm_ck 180 pc q = true := fun pc q h => by
  rcases Nat.lt_or_ge pc 7 with hl | hl
  · exact mm_ckp_at ck_X11_fails_0 pc q (by omega) (by omega) h
  · exact absurd h (by unfold kd_X11_fails; rw [mm_blt_f hl]; exact fun z => nomatch z)

theorem cm_X11_look : ∀ pc q, kd_X11_look pc = some q → mm_ck 181 pc q = true := fun pc q h => by
  rcases Nat.lt_or_ge pc 86 with hl | hl
  · exact mm_ckp_at ck_X11_look_0 pc q (by omega) (by omega) h
  · exact absurd h (by unfold kd_X11_look; rw [mm_blt_f hl]; exact fun z => nomatch z)

theorem cm_X11_codeOf : ∀ pc q, kd_X11_codeOf pc = some q → mm_ck 182 pc q = true := fun pc q h => by
  rcases Nat.lt_or_ge pc 50 with hl | hl
  · exact mm_ckp_at ck_X11_codeOf_0 pc q (by omega) (by omega) h
  · exact absurd h (by unfold kd_X11_codeOf; rw [mm_blt_f hl]; exact fun z => nomatch z)

theorem cm_X11_isValue : ∀ pc q, kd_X11_isValue pc = some q → mm_ck 183 pc q = true := fun pc q h => by
  rcases Nat.lt_or_ge pc 28 with hl | hl
  · exact mm_ckp_at ck_X11_isValue_0 pc q (by omega) (by omega) h
  · exact absurd h (by unfold kd_X11_isValue; rw [mm_blt_f hl]; exact fun z => nomatch z)

theorem cm_X11_code : ∀ pc q, kd_X11_code pc = some q → mm_ck 184 pc q = true := fun pc q h => by
  rcases Nat.lt_or_ge pc 25 with hl | hl
  · exact mm_ckp_at ck_X11_code_0 pc q (by omega) (by omega) h
  · exact absurd h (by unfold kd_X11_code; rw [mm_blt_f hl]; exact fun z => nomatch z)

theorem cm_X11_isKnowing : ∀ pc q, kd_X11_isKnowing pc = some q → mm_ck 185 pc q = true := fun pc q h => by
  rcases Nat.lt_or_ge pc 18 with hl | hl
  · exact mm_ckp_at ck_X11_isKnowing_0 pc q (by omega) (by omega) h
  · exact absurd h (by unfold kd_X11_isKnowing; rw [mm_blt_f hl]; exact fun z => nomatch z)

theorem cm_X11_isCard : ∀ pc q, kd_X11_isCard pc = some q → mm_ck 186 pc q = true := fun pc q h => by
  rcases Nat.lt_or_ge pc 18 with hl | hl
  · exact mm_ckp_at ck_X11_isCard_0 pc q (by omega) (by omega) h
  · exact absurd h (by unfold kd_X11_isCard; rw [mm_blt_f hl]; exact fun z => nomatch z)

theorem cm_X11_wide : ∀ pc q, kd_X11_wide pc = some q → mm_ck 187 pc q = true := fun pc q h => by
  rcases Nat.lt_or_ge pc 15 with hl | hl
  · exact mm_ckp_at ck_X11_wide_0 pc q (by omega) (by omega) h
  · exact absurd h (by unfold kd_X11_wide; rw [mm_blt_f hl]; exact fun z => nomatch z)

theorem cm_X11_know : ∀ pc q, kd_X11_know pc = some q → mm_ck 188 pc q = true := fun pc q h => by
  rcases Nat.lt_or_ge pc 177 with hl | hl
  · rcases Nat.lt_or_ge pc 100 with h0 | h0
    · exact mm_ckp_at ck_X11_know_0 pc q (by omega) (by omega) h
    · exact mm_ckp_at ck_X11_know_1 pc q (by omega) (by omega) h
  · exact absurd h (by unfold kd_X11_know; rw [mm_blt_f hl]; exact fun z => nomatch z)

theorem cm_X11_happens : ∀ pc q, kd_X11_happens pc = some q → mm_ck 189 pc q = true := fun pc q h => by
  rcases Nat.lt_or_ge pc 203 with hl | hl
  · rcases Nat.lt_or_ge pc 100 with h0 | h0
    · exact mm_ckp_at ck_X11_happens_0 pc q (by omega) (by omega) h
    · rcases Nat.lt_or_ge pc 200 with h1 | h1
      · exact mm_ckp_at ck_X11_happens_1 pc q (by omega) (by omega) h
      · exact mm_ckp_at ck_X11_happens_2 pc q (by omega) (by omega) h
  · exact absurd h (by unfold kd_X11_happens; rw [mm_blt_f hl]; exact fun z => nomatch z)

theorem cm_X11_tells : ∀ pc q, kd_X11_tells pc = some q → mm_ck 190 pc q = true := fun pc q h => by
  rcases Nat.lt_or_ge pc 58 with hl | hl
  · exact mm_ckp_at ck_X11_tells_0 pc q (by omega) (by omega) h
  · exact absurd h (by unfold kd_X11_tells; rw [mm_blt_f hl]; exact fun z => nomatch z)

theorem cm_X11_coded : ∀ pc q, kd_X11_coded pc = some q → mm_ck 191 pc q = true := fun pc q h => by
  rcases Nat.lt_or_ge pc 35 with hl | hl
  · exact mm_ckp_at ck_X11_coded_0 pc q (by omega) (by omega) h
  · exact absurd h (by unfold kd_X11_coded; rw [mm_blt_f hl]; exact fun z => nomatch z)

theorem cm_X11_card : ∀ pc q, kd_X11_card pc = some q → mm_ck 192 pc q = true := fun pc q h => by
  rcases Nat.lt_or_ge pc 58 with hl | hl
  · exact mm_ckp_at ck_X11_card_0 pc q (by omega) (by omega) h
  · exact absurd h (by unfold kd_X11_card; rw [mm_blt_f hl]; exact fun z => nomatch z)

theorem cm_X11_set : ∀ pc q, kd_X11_set pc = some q → mm_ck 193 pc q = true := fun pc q h => by
  rcases Nat.lt_or_ge pc 45 with hl | hl
  · exact mm_ckp_at ck_X11_set_0 pc q (by omega) (by omega) h
  · exact absurd h (by unfold kd_X11_set; rw [mm_blt_f hl]; exact fun z => nomatch z)

theorem cm_X11_put : ∀ pc q, kd_X11_put pc = some q → mm_ck 194 pc q = true := fun pc q h => by
  rcases Nat.lt_or_ge pc 44 with hl | hl
  · exact mm_ckp_at ck_X11_put_0 pc q (by omega) (by omega) h
  · exact absurd h (by unfold kd_X11_put; rw [mm_blt_f hl]; exact fun z => nomatch z)

theorem cm_X11_tear : ∀ pc q, kd_X11_tear pc = some q → mm_ck 195 pc q = true := fun pc q h => by
  rcases Nat.lt_or_ge pc 56 with hl | hl
  · exact mm_ckp_at ck_X11_tear_0 pc q (by omega) (by omega) h
  · exact absurd h (by unfold kd_X11_tear; rw [mm_blt_f hl]; exact fun z => nomatch z)

theorem cm_X11_sizeOf : ∀ pc q, kd_X11_sizeOf pc = some q → mm_ck 196 pc q = true := fun pc q h => by
  rcases Nat.lt_or_ge pc 16 with hl | hl
  · exact mm_ckp_at ck_X11_sizeOf_0 pc q (by omega) (by omega) h
  · exact absurd h (by unfold kd_X11_sizeOf; rw [mm_blt_f hl]; exact fun z => nomatch z)

theorem cm_X11_recode : ∀ pc q, kd_X11_recode pc = some q → mm_ck 197 pc q = true := fun pc q h => by
  rcases Nat.lt_or_ge pc 72 with hl | hl
  · exact mm_ckp_at ck_X11_recode_0 pc q (by omega) (by omega) h
  · exact absurd h (by unfold kd_X11_recode; rw [mm_blt_f hl]; exact fun z => nomatch z)

theorem cm_X11_strike : ∀ pc q, kd_X11_strike pc = some q → mm_ck 198 pc q = true := fun pc q h => by
  rcases Nat.lt_or_ge pc 40 with hl | hl
  · exact mm_ckp_at ck_X11_strike_0 pc q (by omega) (by omega) h
  · exact absurd h (by unfold kd_X11_strike; rw [mm_blt_f hl]; exact fun z => nomatch z)

theorem cm_X11_notched : ∀ pc q, kd_X11_notched pc = some q → mm_ck 199 pc q = true := fun pc q h => by
  rcases Nat.lt_or_ge pc 37 with hl | hl
  · exact mm_ckp_at ck_X11_notched_0 pc q (by omega) (by omega) h
  · exact absurd h (by unfold kd_X11_notched; rw [mm_blt_f hl]; exact fun z => nomatch z)

theorem cm_X11_wordsOf : ∀ pc q, kd_X11_wordsOf pc = some q → mm_ck 200 pc q = true := fun pc q h => by
  rcases Nat.lt_or_ge pc 40 with hl | hl
  · exact mm_ckp_at ck_X11_wordsOf_0 pc q (by omega) (by omega) h
  · exact absurd h (by unfold kd_X11_wordsOf; rw [mm_blt_f hl]; exact fun z => nomatch z)

theorem cm_X11_truly : ∀ pc q, kd_X11_truly pc = some q → mm_ck 201 pc q = true := fun pc q h => by
  rcases Nat.lt_or_ge pc 74 with hl | hl
  · exact mm_ckp_at ck_X11_truly_0 pc q (by omega) (by omega) h
  · exact absurd h (by unfold kd_X11_truly; rw [mm_blt_f hl]; exact fun z => nomatch z)

theorem cm_X11_turn : ∀ pc q, kd_X11_turn pc = some q → mm_ck 202 pc q = true := fun pc q h => by
  rcases Nat.lt_or_ge pc 29 with hl | hl
  · exact mm_ckp_at ck_X11_turn_0 pc q (by omega) (by omega) h
  · exact absurd h (by unfold kd_X11_turn; rw [mm_blt_f hl]; exact fun z => nomatch z)

theorem cm_X11_turned : ∀ pc q, kd_X11_turned pc = some q → mm_ck 203 pc q = true := fun pc q h => by
  rcases Nat.lt_or_ge pc 10 with hl | hl
  · exact mm_ckp_at ck_X11_turned_0 pc q (by omega) (by omega) h
  · exact absurd h (by unfold kd_X11_turned; rw [mm_blt_f hl]; exact fun z => nomatch z)

theorem cm_X11_isPack : ∀ pc q, kd_X11_isPack pc = some q → mm_ck 204 pc q = true := fun pc q h => by
  rcases Nat.lt_or_ge pc 16 with hl | hl
  · exact mm_ckp_at ck_X11_isPack_0 pc q (by omega) (by omega) h
  · exact absurd h (by unfold kd_X11_isPack; rw [mm_blt_f hl]; exact fun z => nomatch z)

theorem cm_X11_pack : ∀ pc q, kd_X11_pack pc = some q → mm_ck 205 pc q = true := fun pc q h => by
  rcases Nat.lt_or_ge pc 42 with hl | hl
  · exact mm_ckp_at ck_X11_pack_0 pc q (by omega) (by omega) h
  · exact absurd h (by unfold kd_X11_pack; rw [mm_blt_f hl]; exact fun z => nomatch z)

theorem cm_X11_falls : ∀ pc q, kd_X11_falls pc = some q → mm_ck 206 pc q = true := fun pc q h => by
  rcases Nat.lt_or_ge pc 69 with hl | hl
  · exact mm_ckp_at ck_X11_falls_0 pc q (by omega) (by omega) h
  · exact absurd h (by unfold kd_X11_falls; rw [mm_blt_f hl]; exact fun z => nomatch z)

theorem cm_X11_drops : ∀ pc q, kd_X11_drops pc = some q → mm_ck 207 pc q = true := fun pc q h => by
  rcases Nat.lt_or_ge pc 91 with hl | hl
  · exact mm_ckp_at ck_X11_drops_0 pc q (by omega) (by omega) h
  · exact absurd h (by unfold kd_X11_drops; rw [mm_blt_f hl]; exact fun z => nomatch z)

theorem cm_X11_gather : ∀ pc q, kd_X11_gather pc = some q → mm_ck 208 pc q = true := fun pc q h => by
  rcases Nat.lt_or_ge pc 69 with hl | hl
  · exact mm_ckp_at ck_X11_gather_0 pc q (by omega) (by omega) h
  · exact absurd h (by unfold kd_X11_gather; rw [mm_blt_f hl]; exact fun z => nomatch z)

theorem cm_X11_comes : ∀ pc q, kd_X11_comes pc = some q → mm_ck 209 pc q = true := fun pc q h => by
  rcases Nat.lt_or_ge pc 28 with hl | hl
  · exact mm_ckp_at ck_X11_comes_0 pc q (by omega) (by omega) h
  · exact absurd h (by unfold kd_X11_comes; rw [mm_blt_f hl]; exact fun z => nomatch z)

theorem cm_X11_packRead : ∀ pc q, kd_X11_packRead pc = some q → mm_ck 210 pc q = true := fun pc q h => by
  rcases Nat.lt_or_ge pc 52 with hl | hl
  · exact mm_ckp_at ck_X11_packRead_0 pc q (by omega) (by omega) h
  · exact absurd h (by unfold kd_X11_packRead; rw [mm_blt_f hl]; exact fun z => nomatch z)

theorem cm_X11_holeRead : ∀ pc q, kd_X11_holeRead pc = some q → mm_ck 211 pc q = true := fun pc q h => by
  rcases Nat.lt_or_ge pc 150 with hl | hl
  · rcases Nat.lt_or_ge pc 100 with h0 | h0
    · exact mm_ckp_at ck_X11_holeRead_0 pc q (by omega) (by omega) h
    · exact mm_ckp_at ck_X11_holeRead_1 pc q (by omega) (by omega) h
  · exact absurd h (by unfold kd_X11_holeRead; rw [mm_blt_f hl]; exact fun z => nomatch z)

theorem cm_X11_passRead : ∀ pc q, kd_X11_passRead pc = some q → mm_ck 212 pc q = true := fun pc q h => by
  rcases Nat.lt_or_ge pc 166 with hl | hl
  · rcases Nat.lt_or_ge pc 100 with h0 | h0
    · exact mm_ckp_at ck_X11_passRead_0 pc q (by omega) (by omega) h
    · exact mm_ckp_at ck_X11_passRead_1 pc q (by omega) (by omega) h
  · exact absurd h (by unfold kd_X11_passRead; rw [mm_blt_f hl]; exact fun z => nomatch z)

theorem cm_X11_joinRead : ∀ pc q, kd_X11_joinRead pc = some q → mm_ck 213 pc q = true := fun pc q h => by
  rcases Nat.lt_or_ge pc 78 with hl | hl
  · exact mm_ckp_at ck_X11_joinRead_0 pc q (by omega) (by omega) h
  · exact absurd h (by unfold kd_X11_joinRead; rw [mm_blt_f hl]; exact fun z => nomatch z)

theorem cm_X11_actRead : ∀ pc q, kd_X11_actRead pc = some q → mm_ck 214 pc q = true := fun pc q h => by
  rcases Nat.lt_or_ge pc 270 with hl | hl
  · rcases Nat.lt_or_ge pc 100 with h0 | h0
    · exact mm_ckp_at ck_X11_actRead_0 pc q (by omega) (by omega) h
    · rcases Nat.lt_or_ge pc 200 with h1 | h1
      · exact mm_ckp_at ck_X11_actRead_1 pc q (by omega) (by omega) h
      · exact mm_ckp_at ck_X11_actRead_2 pc q (by omega) (by omega) h
  · exact absurd h (by unfold kd_X11_actRead; rw [mm_blt_f hl]; exact fun z => nomatch z)

theorem cm_X11_passes : ∀ pc q, kd_X11_passes pc = some q → mm_ck 215 pc q = true := fun pc q h => by
  rcases Nat.lt_or_ge pc 183 with hl | hl
  · rcases Nat.lt_or_ge pc 100 with h0 | h0
    · exact mm_ckp_at ck_X11_passes_0 pc q (by omega) (by omega) h
    · exact mm_ckp_at ck_X11_passes_1 pc q (by omega) (by omega) h
  · exact absurd h (by unfold kd_X11_passes; rw [mm_blt_f hl]; exact fun z => nomatch z)

theorem cm_X11_joins : ∀ pc q, kd_X11_joins pc = some q → mm_ck 216 pc q = true := fun pc q h => by
  rcases Nat.lt_or_ge pc 54 with hl | hl
  · exact mm_ckp_at ck_X11_joins_0 pc q (by omega) (by omega) h
  · exact absurd h (by unfold kd_X11_joins; rw [mm_blt_f hl]; exact fun z => nomatch z)

theorem cm_X11_does : ∀ pc q, kd_X11_does pc = some q → mm_ck 217 pc q = true := fun pc q h => by
  rcases Nat.lt_or_ge pc 208 with hl | hl
  · rcases Nat.lt_or_ge pc 100 with h0 | h0
    · exact mm_ckp_at ck_X11_does_0 pc q (by omega) (by omega) h
    · rcases Nat.lt_or_ge pc 200 with h1 | h1
      · exact mm_ckp_at ck_X11_does_1 pc q (by omega) (by omega) h
      · exact mm_ckp_at ck_X11_does_2 pc q (by omega) (by omega) h
  · exact absurd h (by unfold kd_X11_does; rw [mm_blt_f hl]; exact fun z => nomatch z)

theorem cm_X11_work : ∀ pc q, kd_X11_work pc = some q → mm_ck 218 pc q = true := fun pc q h => by
  rcases Nat.lt_or_ge pc 54 with hl | hl
  · exact mm_ckp_at ck_X11_work_0 pc q (by omega) (by omega) h
  · exact absurd h (by unfold kd_X11_work; rw [mm_blt_f hl]; exact fun z => nomatch z)

theorem cm_X11_weight : ∀ pc q, kd_X11_weight pc = some q → mm_ck 219 pc q = true := fun pc q h => by
  rcases Nat.lt_or_ge pc 29 with hl | hl
  · exact mm_ckp_at ck_X11_weight_0 pc q (by omega) (by omega) h
  · exact absurd h (by unfold kd_X11_weight; rw [mm_blt_f hl]; exact fun z => nomatch z)

theorem cm_X11_grown : ∀ pc q, kd_X11_grown pc = some q → mm_ck 220 pc q = true := fun pc q h => by
  rcases Nat.lt_or_ge pc 73 with hl | hl
  · exact mm_ckp_at ck_X11_grown_0 pc q (by omega) (by omega) h
  · exact absurd h (by unfold kd_X11_grown; rw [mm_blt_f hl]; exact fun z => nomatch z)

theorem cm_X11_drop : ∀ pc q, kd_X11_drop pc = some q → mm_ck 221 pc q = true := fun pc q h => by
  rcases Nat.lt_or_ge pc 20 with hl | hl
  · exact mm_ckp_at ck_X11_drop_0 pc q (by omega) (by omega) h
  · exact absurd h (by unfold kd_X11_drop; rw [mm_blt_f hl]; exact fun z => nomatch z)

theorem cm_X11_bind : ∀ pc q, kd_X11_bind pc = some q → mm_ck 222 pc q = true := fun pc q h => by
  rcases Nat.lt_or_ge pc 78 with hl | hl
  · exact mm_ckp_at ck_X11_bind_0 pc q (by omega) (by omega) h
  · exact absurd h (by unfold kd_X11_bind; rw [mm_blt_f hl]; exact fun z => nomatch z)

theorem cm_X11_counts1 : ∀ pc q, kd_X11_counts1 pc = some q → mm_ck 223 pc q = true := fun pc q h => by
  rcases Nat.lt_or_ge pc 27 with hl | hl
  · exact mm_ckp_at ck_X11_counts1_0 pc q (by omega) (by omega) h
  · exact absurd h (by unfold kd_X11_counts1; rw [mm_blt_f hl]; exact fun z => nomatch z)

theorem cm_X11_leafRead : ∀ pc q, kd_X11_leafRead pc = some q → mm_ck 224 pc q = true := fun pc q h => by
  rcases Nat.lt_or_ge pc 253 with hl | hl
  · rcases Nat.lt_or_ge pc 100 with h0 | h0
    · exact mm_ckp_at ck_X11_leafRead_0 pc q (by omega) (by omega) h
    · rcases Nat.lt_or_ge pc 200 with h1 | h1
      · exact mm_ckp_at ck_X11_leafRead_1 pc q (by omega) (by omega) h
      · exact mm_ckp_at ck_X11_leafRead_2 pc q (by omega) (by omega) h
  · exact absurd h (by unfold kd_X11_leafRead; rw [mm_blt_f hl]; exact fun z => nomatch z)

theorem cm_X11_signs : ∀ pc q, kd_X11_signs pc = some q → mm_ck 225 pc q = true := fun pc q h => by
  rcases Nat.lt_or_ge pc 135 with hl | hl
  · rcases Nat.lt_or_ge pc 100 with h0 | h0
    · exact mm_ckp_at ck_X11_signs_0 pc q (by omega) (by omega) h
    · exact mm_ckp_at ck_X11_signs_1 pc q (by omega) (by omega) h
  · exact absurd h (by unfold kd_X11_signs; rw [mm_blt_f hl]; exact fun z => nomatch z)

theorem cm_X11_question : ∀ pc q, kd_X11_question pc = some q → mm_ck 226 pc q = true := fun pc q h => by
  rcases Nat.lt_or_ge pc 177 with hl | hl
  · rcases Nat.lt_or_ge pc 100 with h0 | h0
    · exact mm_ckp_at ck_X11_question_0 pc q (by omega) (by omega) h
    · exact mm_ckp_at ck_X11_question_1 pc q (by omega) (by omega) h
  · exact absurd h (by unfold kd_X11_question; rw [mm_blt_f hl]; exact fun z => nomatch z)

theorem cm_X11_answers : ∀ pc q, kd_X11_answers pc = some q → mm_ck 227 pc q = true := fun pc q h => by
  rcases Nat.lt_or_ge pc 302 with hl | hl
  · rcases Nat.lt_or_ge pc 100 with h0 | h0
    · exact mm_ckp_at ck_X11_answers_0 pc q (by omega) (by omega) h
    · rcases Nat.lt_or_ge pc 200 with h1 | h1
      · exact mm_ckp_at ck_X11_answers_1 pc q (by omega) (by omega) h
      · rcases Nat.lt_or_ge pc 300 with h2 | h2
        · exact mm_ckp_at ck_X11_answers_2 pc q (by omega) (by omega) h
        · exact mm_ckp_at ck_X11_answers_3 pc q (by omega) (by omega) h
  · exact absurd h (by unfold kd_X11_answers; rw [mm_blt_f hl]; exact fun z => nomatch z)

theorem cm_X11_ask : ∀ pc q, kd_X11_ask pc = some q → mm_ck 228 pc q = true := fun pc q h => by
  rcases Nat.lt_or_ge pc 142 with hl | hl
  · rcases Nat.lt_or_ge pc 100 with h0 | h0
    · exact mm_ckp_at ck_X11_ask_0 pc q (by omega) (by omega) h
    · exact mm_ckp_at ck_X11_ask_1 pc q (by omega) (by omega) h
  · exact absurd h (by unfold kd_X11_ask; rw [mm_blt_f hl]; exact fun z => nomatch z)

theorem cm_X11_choose : ∀ pc q, kd_X11_choose pc = some q → mm_ck 229 pc q = true := fun pc q h => by
  rcases Nat.lt_or_ge pc 42 with hl | hl
  · exact mm_ckp_at ck_X11_choose_0 pc q (by omega) (by omega) h
  · exact absurd h (by unfold kd_X11_choose; rw [mm_blt_f hl]; exact fun z => nomatch z)

theorem cm_X11_hasWord : ∀ pc q, kd_X11_hasWord pc = some q → mm_ck 230 pc q = true := fun pc q h => by
  rcases Nat.lt_or_ge pc 20 with hl | hl
  · exact mm_ckp_at ck_X11_hasWord_0 pc q (by omega) (by omega) h
  · exact absurd h (by unfold kd_X11_hasWord; rw [mm_blt_f hl]; exact fun z => nomatch z)

theorem cm_X11_inField : ∀ pc q, kd_X11_inField pc = some q → mm_ck 231 pc q = true := fun pc q h => by
  rcases Nat.lt_or_ge pc 23 with hl | hl
  · exact mm_ckp_at ck_X11_inField_0 pc q (by omega) (by omega) h
  · exact absurd h (by unfold kd_X11_inField; rw [mm_blt_f hl]; exact fun z => nomatch z)

theorem cm_X11_likely : ∀ pc q, kd_X11_likely pc = some q → mm_ck 232 pc q = true := fun pc q h => by
  rcases Nat.lt_or_ge pc 133 with hl | hl
  · rcases Nat.lt_or_ge pc 100 with h0 | h0
    · exact mm_ckp_at ck_X11_likely_0 pc q (by omega) (by omega) h
    · exact mm_ckp_at ck_X11_likely_1 pc q (by omega) (by omega) h
  · exact absurd h (by unfold kd_X11_likely; rw [mm_blt_f hl]; exact fun z => nomatch z)

theorem cm_X11_falseBy : ∀ pc q, kd_X11_falseBy pc = some q → mm_ck 233 pc q = true := fun pc q h => by
  rcases Nat.lt_or_ge pc 62 with hl | hl
  · exact mm_ckp_at ck_X11_falseBy_0 pc q (by omega) (by omega) h
  · exact absurd h (by unfold kd_X11_falseBy; rw [mm_blt_f hl]; exact fun z => nomatch z)

theorem cm_X11_falsely : ∀ pc q, kd_X11_falsely pc = some q → mm_ck 234 pc q = true := fun pc q h => by
  rcases Nat.lt_or_ge pc 40 with hl | hl
  · exact mm_ckp_at ck_X11_falsely_0 pc q (by omega) (by omega) h
  · exact absurd h (by unfold kd_X11_falsely; rw [mm_blt_f hl]; exact fun z => nomatch z)

theorem cm_X11_shared : ∀ pc q, kd_X11_shared pc = some q → mm_ck 235 pc q = true := fun pc q h => by
  rcases Nat.lt_or_ge pc 51 with hl | hl
  · exact mm_ckp_at ck_X11_shared_0 pc q (by omega) (by omega) h
  · exact absurd h (by unfold kd_X11_shared; rw [mm_blt_f hl]; exact fun z => nomatch z)

theorem cm_X11_best : ∀ pc q, kd_X11_best pc = some q → mm_ck 236 pc q = true := fun pc q h => by
  rcases Nat.lt_or_ge pc 315 with hl | hl
  · rcases Nat.lt_or_ge pc 100 with h0 | h0
    · exact mm_ckp_at ck_X11_best_0 pc q (by omega) (by omega) h
    · rcases Nat.lt_or_ge pc 200 with h1 | h1
      · exact mm_ckp_at ck_X11_best_1 pc q (by omega) (by omega) h
      · rcases Nat.lt_or_ge pc 300 with h2 | h2
        · exact mm_ckp_at ck_X11_best_2 pc q (by omega) (by omega) h
        · exact mm_ckp_at ck_X11_best_3 pc q (by omega) (by omega) h
  · exact absurd h (by unfold kd_X11_best; rw [mm_blt_f hl]; exact fun z => nomatch z)

theorem cm_X11_means : ∀ pc q, kd_X11_means pc = some q → mm_ck 237 pc q = true := fun pc q h => by
  rcases Nat.lt_or_ge pc 92 with hl | hl
  · exact mm_ckp_at ck_X11_means_0 pc q (by omega) (by omega) h
  · exact absurd h (by unfold kd_X11_means; rw [mm_blt_f hl]; exact fun z => nomatch z)

theorem cm_X11_meansWords : ∀ pc q, kd_X11_meansWords pc = some q → mm_ck 238 pc q = true := fun pc q h => by
  rcases Nat.lt_or_ge pc 238 with hl | hl
  · rcases Nat.lt_or_ge pc 100 with h0 | h0
    · exact mm_ckp_at ck_X11_meansWords_0 pc q (by omega) (by omega) h
    · rcases Nat.lt_or_ge pc 200 with h1 | h1
      · exact mm_ckp_at ck_X11_meansWords_1 pc q (by omega) (by omega) h
      · exact mm_ckp_at ck_X11_meansWords_2 pc q (by omega) (by omega) h
  · exact absurd h (by unfold kd_X11_meansWords; rw [mm_blt_f hl]; exact fun z => nomatch z)

theorem cm_X11_meansValue : ∀ pc q, kd_X11_meansValue pc = some q → mm_ck 239 pc q = true := fun pc q h => by
  rcases Nat.lt_or_ge pc 129 with hl | hl
  · rcases Nat.lt_or_ge pc 100 with h0 | h0
    · exact mm_ckp_at ck_X11_meansValue_0 pc q (by omega) (by omega) h
    · exact mm_ckp_at ck_X11_meansValue_1 pc q (by omega) (by omega) h
  · exact absurd h (by unfold kd_X11_meansValue; rw [mm_blt_f hl]; exact fun z => nomatch z)

theorem cm_X11_valueOf : ∀ pc q, kd_X11_valueOf pc = some q → mm_ck 240 pc q = true := fun pc q h => by
  rcases Nat.lt_or_ge pc 12 with hl | hl
  · exact mm_ckp_at ck_X11_valueOf_0 pc q (by omega) (by omega) h
  · exact absurd h (by unfold kd_X11_valueOf; rw [mm_blt_f hl]; exact fun z => nomatch z)

theorem cm_X11_behind : ∀ pc q, kd_X11_behind pc = some q → mm_ck 241 pc q = true := fun pc q h => by
  rcases Nat.lt_or_ge pc 180 with hl | hl
  · rcases Nat.lt_or_ge pc 100 with h0 | h0
    · exact mm_ckp_at ck_X11_behind_0 pc q (by omega) (by omega) h
    · exact mm_ckp_at ck_X11_behind_1 pc q (by omega) (by omega) h
  · exact absurd h (by unfold kd_X11_behind; rw [mm_blt_f hl]; exact fun z => nomatch z)

theorem cm_X11_sorts : ∀ pc q, kd_X11_sorts pc = some q → mm_ck 242 pc q = true := fun pc q h => by
  rcases Nat.lt_or_ge pc 264 with hl | hl
  · rcases Nat.lt_or_ge pc 100 with h0 | h0
    · exact mm_ckp_at ck_X11_sorts_0 pc q (by omega) (by omega) h
    · rcases Nat.lt_or_ge pc 200 with h1 | h1
      · exact mm_ckp_at ck_X11_sorts_1 pc q (by omega) (by omega) h
      · exact mm_ckp_at ck_X11_sorts_2 pc q (by omega) (by omega) h
  · exact absurd h (by unfold kd_X11_sorts; rw [mm_blt_f hl]; exact fun z => nomatch z)

theorem cm_X11_nextRow : ∀ pc q, kd_X11_nextRow pc = some q → mm_ck 243 pc q = true := fun pc q h => by
  rcases Nat.lt_or_ge pc 139 with hl | hl
  · rcases Nat.lt_or_ge pc 100 with h0 | h0
    · exact mm_ckp_at ck_X11_nextRow_0 pc q (by omega) (by omega) h
    · exact mm_ckp_at ck_X11_nextRow_1 pc q (by omega) (by omega) h
  · exact absurd h (by unfold kd_X11_nextRow; rw [mm_blt_f hl]; exact fun z => nomatch z)

theorem cm_X11_sort : ∀ pc q, kd_X11_sort pc = some q → mm_ck 244 pc q = true := fun pc q h => by
  rcases Nat.lt_or_ge pc 232 with hl | hl
  · rcases Nat.lt_or_ge pc 100 with h0 | h0
    · exact mm_ckp_at ck_X11_sort_0 pc q (by omega) (by omega) h
    · rcases Nat.lt_or_ge pc 200 with h1 | h1
      · exact mm_ckp_at ck_X11_sort_1 pc q (by omega) (by omega) h
      · exact mm_ckp_at ck_X11_sort_2 pc q (by omega) (by omega) h
  · exact absurd h (by unfold kd_X11_sort; rw [mm_blt_f hl]; exact fun z => nomatch z)

theorem cm_X11_count : ∀ pc q, kd_X11_count pc = some q → mm_ck 245 pc q = true := fun pc q h => by
  rcases Nat.lt_or_ge pc 94 with hl | hl
  · exact mm_ckp_at ck_X11_count_0 pc q (by omega) (by omega) h
  · exact absurd h (by unfold kd_X11_count; rw [mm_blt_f hl]; exact fun z => nomatch z)

theorem cm_J6_bitCount_0f7a4 : ∀ pc q, kd_J6_bitCount_0f7a4 pc = some q → mm_ck 246 pc q = true := fun pc q h => by
  rcases Nat.lt_or_ge pc 53 with hl | hl
  · exact mm_ckp_at ck_J6_bitCount_0f7a4_0 pc q (by omega) (by omega) h
  · exact absurd h (by unfold kd_J6_bitCount_0f7a4; rw [mm_blt_f hl]; exact fun z => nomatch z)

theorem cm_J13_bitCount_95d88 : ∀ pc q, kd_J13_bitCount_95d88 pc = some q → mm_ck 247 pc q = true := fun pc q h => by
  rcases Nat.lt_or_ge pc 61 with hl | hl
  · exact mm_ckp_at ck_J13_bitCount_95d88_0 pc q (by omega) (by omega) h
  · exact absurd h (by unfold kd_J13_bitCount_95d88; rw [mm_blt_f hl]; exact fun z => nomatch z)

theorem cm_X10_look : ∀ pc q, kd_X10_look pc = some q → mm_ck 248 pc q = true := fun pc q h => by
  rcases Nat.lt_or_ge pc 92 with hl | hl
  · exact mm_ckp_at ck_X10_look_0 pc q (by omega) (by omega) h
  · exact absurd h (by unfold kd_X10_look; rw [mm_blt_f hl]; exact fun z => nomatch z)
noncomputable def ck_P (mi : Nat) (f : Nat → Option mm_R) : Prop := ∀ pc q, f pc = some q → mm_ck mi pc q = true
theorem mm_ck_all (mi : Nat) : ck_P mi (mm_code mi) := by
  have hn : ck_P mi (fun _ => none) := fun _ _ h => nomatch h
  exact (mm_sel 124 (mm_sel 62 (mm_sel 31 (mm_sel 15 (mm_sel 7 (mm_sel 3 (mm_sel 1 (mm_leaf cm_L_law hn) (mm_sel 2 (mm_leaf cm_X0_init hn) (mm_leaf cm_X0_find hn))) (mm_sel 5 (mm_sel 4 (mm_leaf cm_X0_cardsCutAt hn) (mm_leaf cm_X0_othersAt hn)) (mm_sel 6 (mm_leaf cm_X0_choose hn) (mm_leaf cm_X0_weigh hn)))) (mm_sel 11 (mm_sel 9 (mm_sel 8 (mm_leaf cm_X1_init hn) (mm_leaf cm_X1_replay hn)) (mm_sel 10 (mm_leaf cm_X1_forget hn) (mm_leaf cm_X1_markStruck hn))) (mm_sel 13 (mm_sel 12 (mm_leaf cm_X1_apply hn) (mm_leaf cm_X1_valueOf hn)) (mm_sel 14 (mm_leaf cm_X1_hasWord hn) (mm_leaf cm_X1_isCutAt hn))))) (mm_sel 23 (mm_sel 19 (mm_sel 17 (mm_sel 16 (mm_leaf cm_X2_init hn) (mm_leaf cm_X2_findSets hn)) (mm_sel 18 (mm_leaf cm_X2_chooseFrom hn) (mm_leaf cm_X2_findValues hn))) (mm_sel 21 (mm_sel 20 (mm_leaf cm_X3_init hn) (mm_leaf cm_X3_add hn)) (mm_sel 22 (mm_leaf cm_X4_init hn) (mm_leaf cm_X4_clear hn)))) (mm_sel 27 (mm_sel 25 (mm_sel 24 (mm_leaf cm_X4_append hn) (mm_leaf cm_X4_lay hn)) (mm_sel 26 (mm_leaf cm_X4_mirrored hn) (mm_leaf cm_X4_isDropping hn))) (mm_sel 29 (mm_sel 28 (mm_leaf cm_X4_dropping hn) (mm_leaf cm_X4_deal hn)) (mm_sel 30 (mm_leaf cm_X5_init hn) (mm_leaf cm_X5_read hn)))))) (mm_sel 46 (mm_sel 38 (mm_sel 34 (mm_sel 32 (mm_leaf cm_X5_readLine hn) (mm_sel 33 (mm_leaf cm_X5_readHoles hn) (mm_leaf cm_X5_readField hn))) (mm_sel 36 (mm_sel 35 (mm_leaf cm_X5_isNewName hn) (mm_leaf cm_X5_kindAt hn)) (mm_sel 37 (mm_leaf cm_X5_readStretch hn) (mm_leaf cm_X5_readDecimal hn)))) (mm_sel 42 (mm_sel 40 (mm_sel 39 (mm_leaf cm_X5_readChosen hn) (mm_leaf cm_X5_isFree hn)) (mm_sel 41 (mm_leaf cm_X5_keepHoles hn) (mm_leaf cm_X5_readWord hn))) (mm_sel 44 (mm_sel 43 (mm_leaf cm_X5_readCode hn) (mm_leaf cm_X5_isField hn)) (mm_sel 45 (mm_leaf cm_X5_isWord hn) (mm_leaf cm_X5_isLaid hn))))) (mm_sel 54 (mm_sel 50 (mm_sel 48 (mm_sel 47 (mm_leaf cm_X5_isValue hn) (mm_leaf cm_X5_width hn)) (mm_sel 49 (mm_leaf cm_X5_spanOf hn) (mm_leaf cm_X5_codeOf hn))) (mm_sel 52 (mm_sel 51 (mm_leaf cm_X5_isCodeOf hn) (mm_leaf cm_X5_wordsOf hn)) (mm_sel 53 (mm_leaf cm_X5_fieldNamed hn) (mm_leaf cm_X5_wordNamed hn)))) (mm_sel 58 (mm_sel 56 (mm_sel 55 (mm_leaf cm_X5_find hn) (mm_leaf cm_X6_init hn)) (mm_sel 57 (mm_leaf cm_X6_clear hn) (mm_leaf cm_X6_read hn))) (mm_sel 60 (mm_sel 59 (mm_leaf cm_X6_readEither hn) (mm_leaf cm_X6_readBoth hn)) (mm_sel 61 (mm_leaf cm_X6_readPart hn) (mm_leaf cm_X6_readInner hn))))))) (mm_sel 93 (mm_sel 77 (mm_sel 69 (mm_sel 65 (mm_sel 63 (mm_leaf cm_X6_readName hn) (mm_sel 64 (mm_leaf cm_X6_passKnot hn) (mm_leaf cm_X6_layDown hn))) (mm_sel 67 (mm_sel 66 (mm_leaf cm_X6_answer hn) (mm_leaf cm_X6_cardsByHoles hn)) (mm_sel 68 (mm_leaf cm_X6_cardsInTruth hn) (mm_leaf cm_X7_init hn)))) (mm_sel 73 (mm_sel 71 (mm_sel 70 (mm_leaf cm_X7_take hn) (mm_leaf cm_X7_fewestMoves hn)) (mm_sel 72 (mm_leaf cm_X7_findRow hn) (mm_leaf cm_X7_firstRow hn))) (mm_sel 75 (mm_sel 74 (mm_leaf cm_X7_isParting hn) (mm_leaf cm_X7_isOrdered hn)) (mm_sel 76 (mm_leaf cm_X7_holeOfPass hn) (mm_leaf cm_X8_init hn))))) (mm_sel 85 (mm_sel 81 (mm_sel 79 (mm_sel 78 (mm_leaf cm_X8_append hn) (mm_leaf cm_X8_begin hn)) (mm_sel 80 (mm_leaf cm_X8_split hn) (mm_leaf cm_X8_splitLetters hn))) (mm_sel 83 (mm_sel 82 (mm_leaf cm_X8_splitDigits hn) (mm_leaf cm_X8_add hn)) (mm_sel 84 (mm_leaf cm_X8_advance hn) (mm_leaf cm_X8_fail hn)))) (mm_sel 89 (mm_sel 87 (mm_sel 86 (mm_leaf cm_X8_failAt hn) (mm_leaf cm_X8_isAt hn)) (mm_sel 88 (mm_leaf cm_X8_isEnded hn) (mm_leaf cm_X8_isNumber hn))) (mm_sel 91 (mm_sel 90 (mm_leaf cm_X8_passWord hn) (mm_leaf cm_X8_passSign hn)) (mm_sel 92 (mm_leaf cm_X8_signAt hn) (mm_leaf cm_X8_isBlank hn)))))) (mm_sel 108 (mm_sel 100 (mm_sel 96 (mm_sel 94 (mm_leaf cm_X8_isLetter hn) (mm_sel 95 (mm_leaf cm_X8_isDigit hn) (mm_leaf cm_X8_isSign hn))) (mm_sel 98 (mm_sel 97 (mm_leaf cm_X8_isOfLanguage hn) (mm_leaf cm_X9_init hn)) (mm_sel 99 (mm_leaf cm_X9_read hn) (mm_leaf cm_X9_readSteps hn)))) (mm_sel 104 (mm_sel 102 (mm_sel 101 (mm_leaf cm_X9_readStep hn) (mm_leaf cm_X9_readPass hn)) (mm_sel 103 (mm_leaf cm_X9_readPack hn) (mm_leaf cm_X9_readNeedle hn))) (mm_sel 106 (mm_sel 105 (mm_leaf cm_X9_readJoin hn) (mm_leaf cm_X9_readAgain hn)) (mm_sel 107 (mm_leaf cm_X9_isDoneBy hn) (mm_leaf cm_X9_doSteps hn))))) (mm_sel 116 (mm_sel 112 (mm_sel 110 (mm_sel 109 (mm_leaf cm_X9_doStep hn) (mm_leaf cm_X10_init hn)) (mm_sel 111 (mm_leaf cm_X10_feed hn) (mm_leaf cm_X10_plan hn))) (mm_sel 114 (mm_sel 113 (mm_leaf cm_X10_work hn) (mm_leaf cm_X10_question hn)) (mm_sel 115 (mm_leaf cm_X10_fault hn) (mm_leaf cm_X10_named hn)))) (mm_sel 120 (mm_sel 118 (mm_sel 117 (mm_leaf cm_X10_code hn) (mm_leaf cm_X10_coded hn)) (mm_sel 119 (mm_leaf cm_X10_card hn) (mm_leaf cm_X10_set hn))) (mm_sel 122 (mm_sel 121 (mm_leaf cm_X10_put hn) (mm_leaf cm_X10_tear hn)) (mm_sel 123 (mm_leaf cm_X10_recode hn) (mm_leaf cm_X10_strike hn)))))))) (mm_sel 186 (mm_sel 155 (mm_sel 139 (mm_sel 131 (mm_sel 127 (mm_sel 125 (mm_leaf cm_X10_notched hn) (mm_sel 126 (mm_leaf cm_X10_truly hn) (mm_leaf cm_X10_turn hn))) (mm_sel 129 (mm_sel 128 (mm_leaf cm_X10_turned hn) (mm_leaf cm_X10_pack hn)) (mm_sel 130 (mm_leaf cm_X10_drops hn) (mm_leaf cm_X10_gather hn)))) (mm_sel 135 (mm_sel 133 (mm_sel 132 (mm_leaf cm_X10_ask hn) (mm_leaf cm_X10_likely hn)) (mm_sel 134 (mm_leaf cm_X10_falsely hn) (mm_leaf cm_X10_best hn))) (mm_sel 137 (mm_sel 136 (mm_leaf cm_X10_means hn) (mm_leaf cm_X10_behind hn)) (mm_sel 138 (mm_leaf cm_X10_sort hn) (mm_leaf cm_X10_count hn))))) (mm_sel 147 (mm_sel 143 (mm_sel 141 (mm_sel 140 (mm_leaf cm_X10_isBy hn) (mm_leaf cm_X10_isCard hn)) (mm_sel 142 (mm_leaf cm_X10_know hn) (mm_leaf cm_X10_knowAll hn))) (mm_sel 145 (mm_sel 144 (mm_leaf cm_X10_isPack hn) (mm_leaf cm_X10_span hn)) (mm_sel 146 (mm_leaf cm_X10_ways hn) (mm_leaf cm_X11_init hn)))) (mm_sel 151 (mm_sel 149 (mm_sel 148 (mm_leaf cm_X11_feed hn) (mm_leaf cm_X11_isIn hn)) (mm_sel 150 (mm_leaf cm_X11_isOf hn) (mm_leaf cm_X11_many hn))) (mm_sel 153 (mm_sel 152 (mm_leaf cm_X11_wrong hn) (mm_leaf cm_X11_wordAt hn)) (mm_sel 154 (mm_leaf cm_X11_isSmall hn) (mm_leaf cm_X11_isDigit hn)))))) (mm_sel 170 (mm_sel 162 (mm_sel 158 (mm_sel 156 (mm_leaf cm_X11_take hn) (mm_sel 157 (mm_leaf cm_X11_packed hn) (mm_leaf cm_X11_isKey hn))) (mm_sel 160 (mm_sel 159 (mm_leaf cm_X11_isSign hn) (mm_leaf cm_X11_signRead hn)) (mm_sel 161 (mm_leaf cm_X11_keyRead hn) (mm_leaf cm_X11_numberRead hn)))) (mm_sel 166 (mm_sel 164 (mm_sel 163 (mm_leaf cm_X11_begins hn) (mm_leaf cm_X11_plain hn)) (mm_sel 165 (mm_leaf cm_X11_keep hn) (mm_leaf cm_X11_fieldRead hn))) (mm_sel 168 (mm_sel 167 (mm_leaf cm_X11_isNamed hn) (mm_leaf cm_X11_between hn)) (mm_sel 169 (mm_leaf cm_X11_newName hn) (mm_leaf cm_X11_fieldLine hn))))) (mm_sel 178 (mm_sel 174 (mm_sel 172 (mm_sel 171 (mm_leaf cm_X11_wordLine hn) (mm_leaf cm_X11_lineRead hn)) (mm_sel 173 (mm_leaf cm_X11_plan hn) (mm_leaf cm_X11_fault hn))) (mm_sel 176 (mm_sel 175 (mm_leaf cm_X11_fieldOf hn) (mm_leaf cm_X11_wordOf hn)) (mm_sel 177 (mm_leaf cm_X11_named hn) (mm_leaf cm_X11_isField hn)))) (mm_sel 182 (mm_sel 180 (mm_sel 179 (mm_leaf cm_X11_isValued hn) (mm_leaf cm_X11_isWord hn)) (mm_sel 181 (mm_leaf cm_X11_fails hn) (mm_leaf cm_X11_look hn))) (mm_sel 184 (mm_sel 183 (mm_leaf cm_X11_codeOf hn) (mm_leaf cm_X11_isValue hn)) (mm_sel 185 (mm_leaf cm_X11_code hn) (mm_leaf cm_X11_isKnowing hn))))))) (mm_sel 217 (mm_sel 201 (mm_sel 193 (mm_sel 189 (mm_sel 187 (mm_leaf cm_X11_isCard hn) (mm_sel 188 (mm_leaf cm_X11_wide hn) (mm_leaf cm_X11_know hn))) (mm_sel 191 (mm_sel 190 (mm_leaf cm_X11_happens hn) (mm_leaf cm_X11_tells hn)) (mm_sel 192 (mm_leaf cm_X11_coded hn) (mm_leaf cm_X11_card hn)))) (mm_sel 197 (mm_sel 195 (mm_sel 194 (mm_leaf cm_X11_set hn) (mm_leaf cm_X11_put hn)) (mm_sel 196 (mm_leaf cm_X11_tear hn) (mm_leaf cm_X11_sizeOf hn))) (mm_sel 199 (mm_sel 198 (mm_leaf cm_X11_recode hn) (mm_leaf cm_X11_strike hn)) (mm_sel 200 (mm_leaf cm_X11_notched hn) (mm_leaf cm_X11_wordsOf hn))))) (mm_sel 209 (mm_sel 205 (mm_sel 203 (mm_sel 202 (mm_leaf cm_X11_truly hn) (mm_leaf cm_X11_turn hn)) (mm_sel 204 (mm_leaf cm_X11_turned hn) (mm_leaf cm_X11_isPack hn))) (mm_sel 207 (mm_sel 206 (mm_leaf cm_X11_pack hn) (mm_leaf cm_X11_falls hn)) (mm_sel 208 (mm_leaf cm_X11_drops hn) (mm_leaf cm_X11_gather hn)))) (mm_sel 213 (mm_sel 211 (mm_sel 210 (mm_leaf cm_X11_comes hn) (mm_leaf cm_X11_packRead hn)) (mm_sel 212 (mm_leaf cm_X11_holeRead hn) (mm_leaf cm_X11_passRead hn))) (mm_sel 215 (mm_sel 214 (mm_leaf cm_X11_joinRead hn) (mm_leaf cm_X11_actRead hn)) (mm_sel 216 (mm_leaf cm_X11_passes hn) (mm_leaf cm_X11_joins hn)))))) (mm_sel 233 (mm_sel 225 (mm_sel 221 (mm_sel 219 (mm_sel 218 (mm_leaf cm_X11_does hn) (mm_leaf cm_X11_work hn)) (mm_sel 220 (mm_leaf cm_X11_weight hn) (mm_leaf cm_X11_grown hn))) (mm_sel 223 (mm_sel 222 (mm_leaf cm_X11_drop hn) (mm_leaf cm_X11_bind hn)) (mm_sel 224 (mm_leaf cm_X11_counts1 hn) (mm_leaf cm_X11_leafRead hn)))) (mm_sel 229 (mm_sel 227 (mm_sel 226 (mm_leaf cm_X11_signs hn) (mm_leaf cm_X11_question hn)) (mm_sel 228 (mm_leaf cm_X11_answers hn) (mm_leaf cm_X11_ask hn))) (mm_sel 231 (mm_sel 230 (mm_leaf cm_X11_choose hn) (mm_leaf cm_X11_hasWord hn)) (mm_sel 232 (mm_leaf cm_X11_inField hn) (mm_leaf cm_X11_likely hn))))) (mm_sel 241 (mm_sel 237 (mm_sel 235 (mm_sel 234 (mm_leaf cm_X11_falseBy hn) (mm_leaf cm_X11_falsely hn)) (mm_sel 236 (mm_leaf cm_X11_shared hn) (mm_leaf cm_X11_best hn))) (mm_sel 239 (mm_sel 238 (mm_leaf cm_X11_means hn) (mm_leaf cm_X11_meansWords hn)) (mm_sel 240 (mm_leaf cm_X11_meansValue hn) (mm_leaf cm_X11_valueOf hn)))) (mm_sel 245 (mm_sel 243 (mm_sel 242 (mm_leaf cm_X11_behind hn) (mm_leaf cm_X11_sorts hn)) (mm_sel 244 (mm_leaf cm_X11_nextRow hn) (mm_leaf cm_X11_sort hn))) (mm_sel 247 (mm_sel 246 (mm_leaf cm_X11_count hn) (mm_leaf cm_J6_bitCount_0f7a4 hn)) (mm_sel 248 (mm_leaf cm_J13_bitCount_95d88 hn) (mm_leaf cm_X10_look hn)))))))))
