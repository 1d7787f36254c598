abbrev md_0 (a i : Nat) : Prop := a < 0
abbrev md_t (a i : Nat) : Prop := a = 1 ∧ 5 ≤ i ∨ 3 ≤ a ∧ a ≤ 5
abbrev md_a (a i : Nat) : Prop := a = 1 ∧ i = 1 ∨ a = 2
abbrev md_bg (a i : Nat) : Prop := a = 1 ∨ 3 ≤ a ∧ a ≤ 5
abbrev md_pr (a i : Nat) : Prop := a = 1 ∧ 5 ≤ i ∨ 3 ≤ a ∧ a ≤ 5 ∨ 50 ≤ a ∧ a ≤ 57 ∨ 59 ≤ a ∧ a ≤ 66
abbrev md_pt (a i : Nat) : Prop := a = 1 ∧ 5 ≤ i ∨ 3 ≤ a ∧ a ≤ 5 ∨ 49 ≤ a ∧ a ≤ 66
abbrev md_n (a i : Nat) : Prop := 6 ≤ a ∧ a ≤ 10
abbrev md_k (a i : Nat) : Prop := 11 ≤ a ∧ a ≤ 16
abbrev md_c (a i : Nat) : Prop := 17 ≤ a ∧ a ≤ 27
abbrev md_c8 (a i : Nat) : Prop := 18 ≤ a ∧ a ≤ 27
abbrev md_17 (a i : Nat) : Prop := a = 17
abbrev md_c42 (a i : Nat) : Prop := a = 1 ∧ 5 ≤ i ∨ 3 ≤ a ∧ a ≤ 5 ∨ a = 57 ∨ a = 66
abbrev md_b (a i : Nat) : Prop := 36 ≤ a ∧ a ≤ 38
abbrev md_m (a i : Nat) : Prop := 39 ≤ a ∧ a ≤ 41
abbrev md_m2 (a i : Nat) : Prop := a = 39 ∧ 4 ≤ i
abbrev md_s (a i : Nat) : Prop := 42 ≤ a ∧ a ≤ 48
abbrev md_s2 (a i : Nat) : Prop := 43 ≤ a ∧ a ≤ 48
abbrev md_w (a i : Nat) : Prop := 18 ≤ a ∧ a ≤ 35
abbrev md_wt (a i : Nat) : Prop := a = 1 ∧ 5 ≤ i ∨ 3 ≤ a ∧ a ≤ 5 ∨ 28 ≤ a ∧ a ≤ 35
abbrev md_wr (a i : Nat) : Prop := a = 1 ∧ 5 ≤ i ∨ 3 ≤ a ∧ a ≤ 5 ∨ 29 ≤ a ∧ a ≤ 35
abbrev md_qt (a i : Nat) : Prop := a = 1 ∧ 5 ≤ i ∨ 3 ≤ a ∧ a ≤ 5 ∨ 67 ≤ a ∧ a ≤ 76
abbrev md_qk (a i : Nat) : Prop := a = 1 ∧ 5 ≤ i ∨ 3 ≤ a ∧ a ≤ 5 ∨ a = 67 ∨ a = 72
abbrev md_q (a i : Nat) : Prop := 67 ≤ a ∧ a ≤ 76
abbrev md_t3 (a i : Nat) : Prop := a = 1 ∧ 5 ≤ i ∨ 3 ≤ a ∧ a ≤ 5 ∨ a = 33
abbrev md_qa (a i : Nat) : Prop := a = 71 ∨ a = 76
abbrev md_y (a i : Nat) : Prop := 11 ≤ a ∧ a ≤ 16 ∨ 18 ≤ a ∧ a ≤ 48 ∨ 67 ≤ a ∧ a ≤ 76
abbrev md_yc (a i : Nat) : Prop := a = 0 ∧ i = 12 ∨ 18 ≤ a ∧ a ≤ 27
abbrev md_X2 (a i : Nat) : Prop := a = 1 ∨ 3 ≤ a ∧ a ≤ 5 ∨ 11 ≤ a ∧ a ≤ 16 ∨ 18 ≤ a ∧ a ≤ 48
abbrev md_X3 (a i : Nat) : Prop := a = 1 ∨ 3 ≤ a ∧ a ≤ 5 ∨ 67 ≤ a ∧ a ≤ 76
abbrev md_X (a i : Nat) : Prop := a ≤ 76 ∧ ¬ a = 2
abbrev md_ak (a i : Nat) : Prop := 11 ≤ a ∧ a ≤ 16 ∨ a = 71 ∨ a = 76
abbrev md_tk (a i : Nat) : Prop := a = 77 ∧ 7 ≤ i ∧ i ≤ 10
abbrev md_tw (a i : Nat) : Prop := a = 77 ∧ (i = 4 ∨ i = 5 ∨ 7 ≤ i ∧ i ≤ 10)
abbrev md_wr2 (a i : Nat) : Prop := a = 77 ∧ (i = 4 ∨ i = 5)
abbrev md_bn (a i : Nat) : Prop := a = 77 ∧ (i = 1 ∨ 4 ≤ i ∧ i ≤ 10)
abbrev md_fe (a i : Nat) : Prop := a = 77 ∧ (i = 1 ∨ i = 2) ∨ a = 78
abbrev md_pl (a i : Nat) : Prop := a = 77 ∧ (i = 4 ∨ i = 5 ∨ 7 ≤ i ∧ i ≤ 10 ∨ 14 ≤ i ∧ i ≤ 16 ∨ i = 25) ∨ 80 ≤ a ∧ a ≤ 84 ∧ 8 ≤ i ∨ 85 ≤ a ∧ a ≤ 87 ∧ 12 ≤ i
abbrev md_p0 (a i : Nat) : Prop := a = 77 ∧ (14 ≤ i ∧ i ≤ 16 ∨ i = 25)
abbrev md_ke (a i : Nat) : Prop := a = 77 ∧ (11 ≤ i ∧ i ≤ 13 ∨ i = 28 ∨ i = 29 ∨ i = 41 ∨ i = 57 ∨ i = 58) ∨ 80 ≤ a ∧ a ≤ 87 ∨ a = 100
abbrev md_P (a i : Nat) : Prop := a = 77 ∨ 79 < a ∧ a ≤ 87 ∨ a = 100
abbrev md_wl (a i : Nat) : Prop := a = 77 ∧ (i = 4 ∨ i = 5 ∨ 7 ≤ i ∧ i ≤ 10 ∨ i = 16) ∨ 85 ≤ a ∧ a ≤ 87 ∧ 12 ≤ i
abbrev md_2 (a i : Nat) : Prop := a = 77 ∧ i = 2
abbrev md_kn (a i : Nat) : Prop := 94 ≤ a ∧ a ≤ 98
abbrev md_k2 (a i : Nat) : Prop := a = 77 ∧ i = 2 ∨ 94 ≤ a ∧ a ≤ 98
abbrev md_te (a i : Nat) : Prop := a = 77 ∧ i = 29 ∨ 90 ≤ a ∧ a ≤ 93
abbrev md_t2 (a i : Nat) : Prop := a = 77 ∧ (i = 2 ∨ i = 29) ∨ 90 ≤ a ∧ a ≤ 93
abbrev md_cd (a i : Nat) : Prop := a = 77 ∧ (i = 2 ∨ i = 28) ∨ a = 99 ∨ a = 100
abbrev md_ga (a i : Nat) : Prop := a = 77 ∧ (i = 2 ∨ i = 41) ∨ a = 99 ∨ a = 100
abbrev md_tu (a i : Nat) : Prop := a = 77 ∧ (i = 2 ∨ i = 41)
abbrev md_co (a i : Nat) : Prop := a = 99 ∨ a = 100
abbrev md_pa (a i : Nat) : Prop := a = 77 ∧ i = 42 ∨ a = 99 ∨ a = 100 ∨ a = 109
abbrev md_ho (a i : Nat) : Prop := a = 77 ∧ (i = 4 ∨ i = 5 ∨ 7 ≤ i ∧ i ≤ 10) ∨ a = 106 ∨ a = 107
abbrev md_ps (a i : Nat) : Prop := a = 77 ∧ (i = 4 ∨ i = 5 ∨ 7 ≤ i ∧ i ≤ 10) ∨ 102 ≤ a ∧ a ≤ 104 ∨ a = 106 ∨ a = 107
abbrev md_ac (a i : Nat) : Prop := a = 77 ∧ (i = 4 ∨ i = 5 ∨ 7 ≤ i ∧ i ≤ 10) ∨ a = 77 ∧ (i = 44 ∨ i = 52) ∨ 101 ≤ a ∧ a ≤ 108
abbrev md_do (a i : Nat) : Prop := a = 77 ∧ (i = 42 ∨ i = 43) ∨ 94 ≤ a ∧ a ≤ 98 ∨ a = 99 ∨ a = 100 ∨ a = 109 ∨ a = 110 ∨ a = 111
abbrev md_wk (a i : Nat) : Prop := a = 77 ∧ (1 ≤ i ∧ i ≤ 2 ∨ 4 ≤ i ∧ i ≤ 10 ∨ 42 ≤ i ∧ i ≤ 44 ∨ i = 52) ∨ 94 ≤ a ∧ a ≤ 111
abbrev md_gr (a i : Nat) : Prop := a = 77 ∧ (i = 59 ∨ i = 66) ∨ 112 ≤ a ∧ a ≤ 114 ∧ 40 ≤ i ∨ a = 116
abbrev md_bi (a i : Nat) : Prop := a = 77 ∧ (i = 59 ∨ i = 65 ∨ i = 66) ∨ 112 ≤ a ∧ a ≤ 114 ∧ 40 ≤ i ∨ a = 116
abbrev md_qr (a i : Nat) : Prop := a = 77 ∧ (i = 4 ∨ i = 5 ∨ 7 ≤ i ∧ i ≤ 10) ∨ a = 77 ∧ (i = 59 ∨ 65 ≤ i ∧ i ≤ 69) ∨ 112 ≤ a ∧ a ≤ 114 ∧ 40 ≤ i ∨ a = 115 ∨ a = 116
abbrev md_qu (a i : Nat) : Prop := a = 77 ∧ (1 ≤ i ∧ i ≤ 2 ∨ 4 ≤ i ∧ i ≤ 10 ∨ 57 ≤ i ∧ i ≤ 59 ∨ 65 ≤ i ∧ i ≤ 69) ∨ 112 ≤ a ∧ a ≤ 116
abbrev md_an (a i : Nat) : Prop := a = 117
abbrev md_as (a i : Nat) : Prop := a = 77 ∧ i = 2 ∨ 94 ≤ a ∧ a ≤ 98 ∨ a = 117
abbrev md_mw (a i : Nat) : Prop := a = 119
abbrev md_me (a i : Nat) : Prop := a = 77 ∧ i = 2 ∨ 94 ≤ a ∧ a ≤ 98 ∨ a = 119
abbrev md_be (a i : Nat) : Prop := a = 77 ∧ i = 2 ∨ 94 ≤ a ∧ a ≤ 98 ∨ a = 120
abbrev md_so (a i : Nat) : Prop := a = 121 ∨ a = 122
abbrev md_bs (a i : Nat) : Prop := a = 77 ∧ i = 2 ∨ 94 ≤ a ∧ a ≤ 98 ∨ a = 118
abbrev md_ro (a i : Nat) : Prop := a = 123
abbrev md_st (a i : Nat) : Prop := a = 77 ∧ i = 2 ∨ 94 ≤ a ∧ a ≤ 98 ∨ 121 ≤ a ∧ a ≤ 124
