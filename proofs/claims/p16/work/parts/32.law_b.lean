theorem tg_504 {M M1 : mm_M} (F : FR (fun a i : Nat => a = 77 ∧ (i = 2 ∨ i = 41)) M M1) : ∀ a i : Nat, PI_r a → M1.2.1 a i = M.2.1 a i := fun a i z => F_n F (show ¬ (a = 77 ∧ (i = 2 ∨ i = 41)) by omega) rfl
theorem tg_505 {M M1 : mm_M} (F : FR (fun a i : Nat => a = 77 ∧ (i = 2 ∨ i = 41)) M M1) : ∀ a i : Nat, (7 ≤ a ∧ a ≤ 9) → M1.2.1 a i = M.2.1 a i := fun a i z => F_n F (show ¬ (a = 77 ∧ (i = 2 ∨ i = 41)) by omega) rfl
theorem tg_506 {M M1 : mm_M} (F : FR (fun a i : Nat => a = 77 ∧ (i = 2 ∨ i = 41)) M M1) : ∀ a i : Nat, (a = 68 ∨ a = 69 ∨ a = 73 ∨ a = 74) → M1.2.1 a i = M.2.1 a i := fun a i z => F_n F (show ¬ (a = 77 ∧ (i = 2 ∨ i = 41)) by omega) rfl
theorem tg_507 {M M1 : mm_M} (F : FR (fun a i : Nat => a = 77 ∧ (i = 2 ∨ i = 41)) M M1) : ∀ a i : Nat, (81 ≤ a ∧ a ≤ 84) → M1.2.1 a i = M.2.1 a i := fun a i z => F_n F (show ¬ (a = 77 ∧ (i = 2 ∨ i = 41)) by omega) rfl
theorem tg_508 {M M1 : mm_M} (F : FR (fun a i : Nat => a = 17) M M1) : ∀ a i : Nat, (81 ≤ a ∧ a ≤ 84) → M1.2.1 a i = M.2.1 a i := fun a i z => F_n F (show ¬ (a = 17) by omega) rfl
theorem tg_509 {M M1 : mm_M} (F : FR (fun a i : Nat => a = 77 ∧ (i = 2 ∨ i = 41)) M M1) : ∀ a i : Nat, WC_r a i → M1.2.1 a i = M.2.1 a i := fun a i z => F_n F (show ¬ (a = 77 ∧ (i = 2 ∨ i = 41)) by omega) rfl
theorem tg_510 {M M1 : mm_M} (F : FR (fun a i : Nat => a = 17) M M1) : ∀ a i : Nat, WC_r a i → M1.2.1 a i = M.2.1 a i := fun a i z => F_n F (show ¬ (a = 17) by omega) rfl
theorem tg_511 {M M1 : mm_M} (F : FR (fun a i : Nat => a = 77 ∧ (i = 2 ∨ i = 41)) M M1) : ∀ a i : Nat, NJ_r a i → M1.2.1 a i = M.2.1 a i := fun a i z => F_n F (show ¬ (a = 77 ∧ (i = 2 ∨ i = 41)) by omega) rfl
theorem tg_512 {M M1 : mm_M} (F : FR (fun a i : Nat => a = 17) M M1) : ∀ a i : Nat, NJ_r a i → M1.2.1 a i = M.2.1 a i := fun a i z => F_n F (show ¬ (a = 17) by omega) rfl
theorem tg_513 {M M1 : mm_M} (F : FR (fun a i : Nat => a = 77 ∧ (i = 2 ∨ i = 41)) M M1) : ∀ a i : Nat, (a = 100 ∨ a = 77 ∧ i = 28) → M1.2.1 a i = M.2.1 a i := fun a i z => F_n F (show ¬ (a = 77 ∧ (i = 2 ∨ i = 41)) by omega) rfl
theorem tg_514 {M M1 : mm_M} (F : FR (fun a i : Nat => a = 17) M M1) : ∀ a i : Nat, (a = 100 ∨ a = 77 ∧ i = 28) → M1.2.1 a i = M.2.1 a i := fun a i z => F_n F (show ¬ (a = 17) by omega) rfl
theorem tg_515 {M M1 : mm_M} (F : FR (fun a i : Nat => a = 77 ∧ (i = 2 ∨ i = 41)) M M1) : ∀ a i : Nat, KQ_r a i → M1.2.1 a i = M.2.1 a i := fun a i z => F_n F (show ¬ (a = 77 ∧ (i = 2 ∨ i = 41)) by omega) rfl
theorem tg_516 {M M1 : mm_M} (F : FR (fun a i : Nat => a = 17) M M1) : ∀ a i : Nat, KQ_r a i → M1.2.1 a i = M.2.1 a i := fun a i z => F_n F (show ¬ (a = 17) by omega) rfl
theorem tg_517 {M M1 : mm_M} (F : FR (fun a i : Nat => a = 77 ∧ (i = 2 ∨ i = 41)) M M1) : ∀ a i : Nat, (a = 1 ∧ i = 1 ∨ a = 2 ∨ a = 78) → M1.2.1 a i = M.2.1 a i := fun a i z => F_n F (show ¬ (a = 77 ∧ (i = 2 ∨ i = 41)) by omega) rfl
theorem tg_518 {M M1 : mm_M} (F : FR (fun a i : Nat => a = 17) M M1) : ∀ a i : Nat, (a = 1 ∧ i = 1 ∨ a = 2 ∨ a = 78) → M1.2.1 a i = M.2.1 a i := fun a i z => F_n F (show ¬ (a = 17) by omega) rfl
theorem tg_519 {M M1 : mm_M} (F : FR (fun a i : Nat => a = 77 ∧ (i = 2 ∨ i = 41)) M M1) : ∀ a i : Nat, a = 79 → M1.2.1 a i = M.2.1 a i := fun a i z => F_n F (show ¬ (a = 77 ∧ (i = 2 ∨ i = 41)) by omega) rfl
theorem tg_520 {M M1 : mm_M} (F : FR (fun a i : Nat => a = 17) M M1) : ∀ a i : Nat, a = 79 → M1.2.1 a i = M.2.1 a i := fun a i z => F_n F (show ¬ (a = 17) by omega) rfl
theorem tg_521 {M M1 : mm_M} (F : FR (fun a i : Nat => a = 77 ∧ (i = 2 ∨ i = 41)) M M1) : ∀ a i : Nat, 88 ≤ a ∧ a ≤ 89 → M1.2.1 a i = M.2.1 a i := fun a i z => F_n F (show ¬ (a = 77 ∧ (i = 2 ∨ i = 41)) by omega) rfl
theorem tg_522 {M M1 : mm_M} (F : FR (fun a i : Nat => a = 17) M M1) : ∀ a i : Nat, 88 ≤ a ∧ a ≤ 89 → M1.2.1 a i = M.2.1 a i := fun a i z => F_n F (show ¬ (a = 17) by omega) rfl
theorem tg_523 {M M1 : mm_M} (F : FR (fun a i : Nat => a = 77 ∧ (i = 2 ∨ i = 41) ∨ a = 99 ∨ a = 100) M M1) : ∀ a i : Nat, PI_r a → M1.2.1 a i = M.2.1 a i := fun a i z => F_n F (show ¬ (a = 77 ∧ (i = 2 ∨ i = 41) ∨ a = 99 ∨ a = 100) by omega) rfl
theorem tg_524 {M M1 : mm_M} (F : FR (fun a i : Nat => a = 77 ∧ (i = 2 ∨ i = 41) ∨ a = 99 ∨ a = 100) M M1) : ∀ a i : Nat, (7 ≤ a ∧ a ≤ 9) → M1.2.1 a i = M.2.1 a i := fun a i z => F_n F (show ¬ (a = 77 ∧ (i = 2 ∨ i = 41) ∨ a = 99 ∨ a = 100) by omega) rfl
theorem tg_525 {M M1 : mm_M} (F : FR (fun a i : Nat => a = 77 ∧ (i = 2 ∨ i = 41) ∨ a = 99 ∨ a = 100) M M1) : ∀ a i : Nat, (a = 68 ∨ a = 69 ∨ a = 73 ∨ a = 74) → M1.2.1 a i = M.2.1 a i := fun a i z => F_n F (show ¬ (a = 77 ∧ (i = 2 ∨ i = 41) ∨ a = 99 ∨ a = 100) by omega) rfl
theorem tg_526 {M M1 : mm_M} (F : FR (fun a i : Nat => a = 77 ∧ (i = 2 ∨ i = 41) ∨ a = 99 ∨ a = 100) M M1) : ∀ a i : Nat, (81 ≤ a ∧ a ≤ 84) → M1.2.1 a i = M.2.1 a i := fun a i z => F_n F (show ¬ (a = 77 ∧ (i = 2 ∨ i = 41) ∨ a = 99 ∨ a = 100) by omega) rfl
theorem tg_527 {M M1 : mm_M} (F : FR (fun a i : Nat => 17 ≤ a ∧ a ≤ 27) M M1) : ∀ a i : Nat, (81 ≤ a ∧ a ≤ 84) → M1.2.1 a i = M.2.1 a i := fun a i z => F_n F (show ¬ (17 ≤ a ∧ a ≤ 27) by omega) rfl
theorem tg_528 {M M1 : mm_M} (F : FR (fun a i : Nat => a = 77 ∧ (i = 2 ∨ i = 41) ∨ a = 99 ∨ a = 100) M M1) : ∀ a i : Nat, WC_r a i → M1.2.1 a i = M.2.1 a i := fun a i z => F_n F (show ¬ (a = 77 ∧ (i = 2 ∨ i = 41) ∨ a = 99 ∨ a = 100) by omega) rfl
theorem tg_529 {M M1 : mm_M} (F : FR (fun a i : Nat => 17 ≤ a ∧ a ≤ 27) M M1) : ∀ a i : Nat, WC_r a i → M1.2.1 a i = M.2.1 a i := fun a i z => F_n F (show ¬ (17 ≤ a ∧ a ≤ 27) by omega) rfl
theorem tg_530 {M M1 : mm_M} (F : FR (fun a i : Nat => a = 77 ∧ (i = 2 ∨ i = 41) ∨ a = 99 ∨ a = 100) M M1) : ∀ a i : Nat, NJ_r a i → M1.2.1 a i = M.2.1 a i := fun a i z => F_n F (show ¬ (a = 77 ∧ (i = 2 ∨ i = 41) ∨ a = 99 ∨ a = 100) by omega) rfl
theorem tg_531 {M M1 : mm_M} (F : FR (fun a i : Nat => 17 ≤ a ∧ a ≤ 27) M M1) : ∀ a i : Nat, NJ_r a i → M1.2.1 a i = M.2.1 a i := fun a i z => F_n F (show ¬ (17 ≤ a ∧ a ≤ 27) by omega) rfl
theorem tg_532 {M M1 : mm_M} (F : FR (fun a i : Nat => a = 77 ∧ (i = 2 ∨ i = 41) ∨ a = 99 ∨ a = 100) M M1) : ∀ a i : Nat, KQ_r a i → M1.2.1 a i = M.2.1 a i := fun a i z => F_n F (show ¬ (a = 77 ∧ (i = 2 ∨ i = 41) ∨ a = 99 ∨ a = 100) by omega) rfl
theorem tg_533 {M M1 : mm_M} (F : FR (fun a i : Nat => 17 ≤ a ∧ a ≤ 27) M M1) : ∀ a i : Nat, KQ_r a i → M1.2.1 a i = M.2.1 a i := fun a i z => F_n F (show ¬ (17 ≤ a ∧ a ≤ 27) by omega) rfl
theorem tg_534 {M M1 : mm_M} (F : FR (fun a i : Nat => a = 77 ∧ (i = 2 ∨ i = 41) ∨ a = 99 ∨ a = 100) M M1) : ∀ a i : Nat, (a = 1 ∧ i = 1 ∨ a = 2 ∨ a = 78) → M1.2.1 a i = M.2.1 a i := fun a i z => F_n F (show ¬ (a = 77 ∧ (i = 2 ∨ i = 41) ∨ a = 99 ∨ a = 100) by omega) rfl
theorem tg_535 {M M1 : mm_M} (F : FR (fun a i : Nat => 17 ≤ a ∧ a ≤ 27) M M1) : ∀ a i : Nat, (a = 1 ∧ i = 1 ∨ a = 2 ∨ a = 78) → M1.2.1 a i = M.2.1 a i := fun a i z => F_n F (show ¬ (17 ≤ a ∧ a ≤ 27) by omega) rfl
theorem tg_536 {M M1 : mm_M} (F : FR (fun a i : Nat => a = 77 ∧ (i = 2 ∨ i = 41) ∨ a = 99 ∨ a = 100) M M1) : ∀ a i : Nat, a = 79 → M1.2.1 a i = M.2.1 a i := fun a i z => F_n F (show ¬ (a = 77 ∧ (i = 2 ∨ i = 41) ∨ a = 99 ∨ a = 100) by omega) rfl
theorem tg_537 {M M1 : mm_M} (F : FR (fun a i : Nat => 17 ≤ a ∧ a ≤ 27) M M1) : ∀ a i : Nat, a = 79 → M1.2.1 a i = M.2.1 a i := fun a i z => F_n F (show ¬ (17 ≤ a ∧ a ≤ 27) by omega) rfl
theorem tg_538 {M M1 : mm_M} (F : FR (fun a i : Nat => a = 77 ∧ (i = 2 ∨ i = 41) ∨ a = 99 ∨ a = 100) M M1) : ∀ a i : Nat, 88 ≤ a ∧ a ≤ 89 → M1.2.1 a i = M.2.1 a i := fun a i z => F_n F (show ¬ (a = 77 ∧ (i = 2 ∨ i = 41) ∨ a = 99 ∨ a = 100) by omega) rfl
theorem tg_539 {M M1 : mm_M} (F : FR (fun a i : Nat => 17 ≤ a ∧ a ≤ 27) M M1) : ∀ a i : Nat, 88 ≤ a ∧ a ≤ 89 → M1.2.1 a i = M.2.1 a i := fun a i z => F_n F (show ¬ (17 ≤ a ∧ a ≤ 27) by omega) rfl
theorem tg_540 {M M1 : mm_M} (F : FR (fun a i : Nat => 11 ≤ a ∧ a ≤ 16 ∨ a = 71 ∨ a = 76) M M1) : ∀ a i : Nat, NJ_r a i → M1.2.1 a i = M.2.1 a i := fun a i z => F_n F (show ¬ (11 ≤ a ∧ a ≤ 16 ∨ a = 71 ∨ a = 76) by omega) rfl
theorem tg_541 {M M1 : mm_M} (F : FR (fun a i : Nat => 11 ≤ a ∧ a ≤ 16 ∨ a = 71 ∨ a = 76) M M1) : ∀ a i : Nat, KQ_r a i → M1.2.1 a i = M.2.1 a i := fun a i z => F_n F (show ¬ (11 ≤ a ∧ a ≤ 16 ∨ a = 71 ∨ a = 76) by omega) rfl
theorem tg_542 {M M1 : mm_M} (F : FR (fun a i : Nat => a = 77 ∧ i = 2 ∨ 94 ≤ a ∧ a ≤ 98 ∨ a = 117) M M1) : ∀ a i : Nat, PI_r a → M1.2.1 a i = M.2.1 a i := fun a i z => F_n F (show ¬ (a = 77 ∧ i = 2 ∨ 94 ≤ a ∧ a ≤ 98 ∨ a = 117) by omega) rfl
theorem tg_543 {M M1 : mm_M} (F : FR (fun a i : Nat => 11 ≤ a ∧ a ≤ 16 ∨ a = 71 ∨ a = 76) M M1) : ∀ a i : Nat, PI_r a → M1.2.1 a i = M.2.1 a i := fun a i z => F_n F (show ¬ (11 ≤ a ∧ a ≤ 16 ∨ a = 71 ∨ a = 76) by omega) rfl
theorem tg_544 {M M1 : mm_M} (F : FR (fun a i : Nat => a = 77 ∧ i = 2 ∨ 94 ≤ a ∧ a ≤ 98 ∨ a = 117) M M1) : ∀ a i : Nat, (7 ≤ a ∧ a ≤ 9) → M1.2.1 a i = M.2.1 a i := fun a i z => F_n F (show ¬ (a = 77 ∧ i = 2 ∨ 94 ≤ a ∧ a ≤ 98 ∨ a = 117) by omega) rfl
theorem tg_545 {M M1 : mm_M} (F : FR (fun a i : Nat => 11 ≤ a ∧ a ≤ 16 ∨ a = 71 ∨ a = 76) M M1) : ∀ a i : Nat, (7 ≤ a ∧ a ≤ 9) → M1.2.1 a i = M.2.1 a i := fun a i z => F_n F (show ¬ (11 ≤ a ∧ a ≤ 16 ∨ a = 71 ∨ a = 76) by omega) rfl
theorem tg_546 {M M1 : mm_M} (F : FR (fun a i : Nat => a = 77 ∧ i = 2 ∨ 94 ≤ a ∧ a ≤ 98 ∨ a = 117) M M1) : ∀ a i : Nat, (a = 68 ∨ a = 69 ∨ a = 73 ∨ a = 74) → M1.2.1 a i = M.2.1 a i := fun a i z => F_n F (show ¬ (a = 77 ∧ i = 2 ∨ 94 ≤ a ∧ a ≤ 98 ∨ a = 117) by omega) rfl
theorem tg_547 {M M1 : mm_M} (F : FR (fun a i : Nat => 11 ≤ a ∧ a ≤ 16 ∨ a = 71 ∨ a = 76) M M1) : ∀ a i : Nat, (a = 68 ∨ a = 69 ∨ a = 73 ∨ a = 74) → M1.2.1 a i = M.2.1 a i := fun a i z => F_n F (show ¬ (11 ≤ a ∧ a ≤ 16 ∨ a = 71 ∨ a = 76) by omega) rfl
theorem tg_548 {M M1 : mm_M} (F : FR (fun a i : Nat => a = 77 ∧ i = 2 ∨ 94 ≤ a ∧ a ≤ 98 ∨ a = 117) M M1) : ∀ a i : Nat, (81 ≤ a ∧ a ≤ 84) → M1.2.1 a i = M.2.1 a i := fun a i z => F_n F (show ¬ (a = 77 ∧ i = 2 ∨ 94 ≤ a ∧ a ≤ 98 ∨ a = 117) by omega) rfl
theorem tg_549 {M M1 : mm_M} (F : FR (fun a i : Nat => 11 ≤ a ∧ a ≤ 16 ∨ a = 71 ∨ a = 76) M M1) : ∀ a i : Nat, (81 ≤ a ∧ a ≤ 84) → M1.2.1 a i = M.2.1 a i := fun a i z => F_n F (show ¬ (11 ≤ a ∧ a ≤ 16 ∨ a = 71 ∨ a = 76) by omega) rfl
theorem tg_550 {M M1 : mm_M} (F : FR (fun a i : Nat => a = 77 ∧ i = 2 ∨ 94 ≤ a ∧ a ≤ 98 ∨ a = 117) M M1) : ∀ a i : Nat, WC_r a i → M1.2.1 a i = M.2.1 a i := fun a i z => F_n F (show ¬ (a = 77 ∧ i = 2 ∨ 94 ≤ a ∧ a ≤ 98 ∨ a = 117) by omega) rfl
theorem tg_551 {M M1 : mm_M} (F : FR (fun a i : Nat => 11 ≤ a ∧ a ≤ 16 ∨ a = 71 ∨ a = 76) M M1) : ∀ a i : Nat, WC_r a i → M1.2.1 a i = M.2.1 a i := fun a i z => F_n F (show ¬ (11 ≤ a ∧ a ≤ 16 ∨ a = 71 ∨ a = 76) by omega) rfl
theorem tg_552 {M M1 : mm_M} (F : FR (fun a i : Nat => a = 77 ∧ i = 2 ∨ 94 ≤ a ∧ a ≤ 98 ∨ a = 117) M M1) : ∀ a i : Nat, NJ_r a i → M1.2.1 a i = M.2.1 a i := fun a i z => F_n F (show ¬ (a = 77 ∧ i = 2 ∨ 94 ≤ a ∧ a ≤ 98 ∨ a = 117) by omega) rfl
theorem tg_553 {M M1 : mm_M} (F : FR (fun a i : Nat => a = 77 ∧ i = 2 ∨ 94 ≤ a ∧ a ≤ 98 ∨ a = 117) M M1) : ∀ a i : Nat, (a = 100 ∨ a = 77 ∧ i = 28) → M1.2.1 a i = M.2.1 a i := fun a i z => F_n F (show ¬ (a = 77 ∧ i = 2 ∨ 94 ≤ a ∧ a ≤ 98 ∨ a = 117) by omega) rfl
theorem tg_554 {M M1 : mm_M} (F : FR (fun a i : Nat => 11 ≤ a ∧ a ≤ 16 ∨ a = 71 ∨ a = 76) M M1) : ∀ a i : Nat, (a = 100 ∨ a = 77 ∧ i = 28) → M1.2.1 a i = M.2.1 a i := fun a i z => F_n F (show ¬ (11 ≤ a ∧ a ≤ 16 ∨ a = 71 ∨ a = 76) by omega) rfl
theorem tg_555 {M M1 : mm_M} (F : FR (fun a i : Nat => a = 77 ∧ i = 2 ∨ 94 ≤ a ∧ a ≤ 98 ∨ a = 117) M M1) : ∀ a i : Nat, KQ_r a i → M1.2.1 a i = M.2.1 a i := fun a i z => F_n F (show ¬ (a = 77 ∧ i = 2 ∨ 94 ≤ a ∧ a ≤ 98 ∨ a = 117) by omega) rfl
theorem tg_556 {M M1 : mm_M} (F : FR (fun a i : Nat => a = 77 ∧ i = 2 ∨ 94 ≤ a ∧ a ≤ 98 ∨ a = 117) M M1) : ∀ a i : Nat, (a = 1 ∧ i = 1 ∨ a = 2 ∨ a = 78) → M1.2.1 a i = M.2.1 a i := fun a i z => F_n F (show ¬ (a = 77 ∧ i = 2 ∨ 94 ≤ a ∧ a ≤ 98 ∨ a = 117) by omega) rfl
theorem tg_557 {M M1 : mm_M} (F : FR (fun a i : Nat => 11 ≤ a ∧ a ≤ 16 ∨ a = 71 ∨ a = 76) M M1) : ∀ a i : Nat, (a = 1 ∧ i = 1 ∨ a = 2 ∨ a = 78) → M1.2.1 a i = M.2.1 a i := fun a i z => F_n F (show ¬ (11 ≤ a ∧ a ≤ 16 ∨ a = 71 ∨ a = 76) by omega) rfl
theorem tg_558 {M M1 : mm_M} (F : FR (fun a i : Nat => a = 77 ∧ i = 2 ∨ 94 ≤ a ∧ a ≤ 98 ∨ a = 117) M M1) : ∀ a i : Nat, a = 79 → M1.2.1 a i = M.2.1 a i := fun a i z => F_n F (show ¬ (a = 77 ∧ i = 2 ∨ 94 ≤ a ∧ a ≤ 98 ∨ a = 117) by omega) rfl
theorem tg_559 {M M1 : mm_M} (F : FR (fun a i : Nat => 11 ≤ a ∧ a ≤ 16 ∨ a = 71 ∨ a = 76) M M1) : ∀ a i : Nat, a = 79 → M1.2.1 a i = M.2.1 a i := fun a i z => F_n F (show ¬ (11 ≤ a ∧ a ≤ 16 ∨ a = 71 ∨ a = 76) by omega) rfl
theorem tg_560 {M M1 : mm_M} (F : FR (fun a i : Nat => a = 77 ∧ i = 2 ∨ 94 ≤ a ∧ a ≤ 98 ∨ a = 117) M M1) : ∀ a i : Nat, 88 ≤ a ∧ a ≤ 89 → M1.2.1 a i = M.2.1 a i := fun a i z => F_n F (show ¬ (a = 77 ∧ i = 2 ∨ 94 ≤ a ∧ a ≤ 98 ∨ a = 117) by omega) rfl
theorem tg_561 {M M1 : mm_M} (F : FR (fun a i : Nat => 11 ≤ a ∧ a ≤ 16 ∨ a = 71 ∨ a = 76) M M1) : ∀ a i : Nat, 88 ≤ a ∧ a ≤ 89 → M1.2.1 a i = M.2.1 a i := fun a i z => F_n F (show ¬ (11 ≤ a ∧ a ≤ 16 ∨ a = 71 ∨ a = 76) by omega) rfl
theorem tg_562 {M M1 : mm_M} (F : FR (fun a i : Nat => a = 77 ∧ i = 2 ∨ 94 ≤ a ∧ a ≤ 98 ∨ a = 118) M M1) : ∀ a i : Nat, PI_r a → M1.2.1 a i = M.2.1 a i := fun a i z => F_n F (show ¬ (a = 77 ∧ i = 2 ∨ 94 ≤ a ∧ a ≤ 98 ∨ a = 118) by omega) rfl
theorem tg_563 {M M1 : mm_M} (F : FR (fun a i : Nat => a = 77 ∧ i = 2 ∨ 94 ≤ a ∧ a ≤ 98 ∨ a = 118) M M1) : ∀ a i : Nat, (7 ≤ a ∧ a ≤ 9) → M1.2.1 a i = M.2.1 a i := fun a i z => F_n F (show ¬ (a = 77 ∧ i = 2 ∨ 94 ≤ a ∧ a ≤ 98 ∨ a = 118) by omega) rfl
theorem tg_564 {M M1 : mm_M} (F : FR (fun a i : Nat => a = 77 ∧ i = 2 ∨ 94 ≤ a ∧ a ≤ 98 ∨ a = 118) M M1) : ∀ a i : Nat, (a = 68 ∨ a = 69 ∨ a = 73 ∨ a = 74) → M1.2.1 a i = M.2.1 a i := fun a i z => F_n F (show ¬ (a = 77 ∧ i = 2 ∨ 94 ≤ a ∧ a ≤ 98 ∨ a = 118) by omega) rfl
theorem tg_565 {M M1 : mm_M} (F : FR (fun a i : Nat => a = 77 ∧ i = 2 ∨ 94 ≤ a ∧ a ≤ 98 ∨ a = 118) M M1) : ∀ a i : Nat, (81 ≤ a ∧ a ≤ 84) → M1.2.1 a i = M.2.1 a i := fun a i z => F_n F (show ¬ (a = 77 ∧ i = 2 ∨ 94 ≤ a ∧ a ≤ 98 ∨ a = 118) by omega) rfl
theorem tg_566 {M M1 : mm_M} (F : FR (fun a i : Nat => a = 77 ∧ i = 2 ∨ 94 ≤ a ∧ a ≤ 98 ∨ a = 118) M M1) : ∀ a i : Nat, WC_r a i → M1.2.1 a i = M.2.1 a i := fun a i z => F_n F (show ¬ (a = 77 ∧ i = 2 ∨ 94 ≤ a ∧ a ≤ 98 ∨ a = 118) by omega) rfl
theorem tg_567 {M M1 : mm_M} (F : FR (fun a i : Nat => a = 77 ∧ i = 2 ∨ 94 ≤ a ∧ a ≤ 98 ∨ a = 118) M M1) : ∀ a i : Nat, NJ_r a i → M1.2.1 a i = M.2.1 a i := fun a i z => F_n F (show ¬ (a = 77 ∧ i = 2 ∨ 94 ≤ a ∧ a ≤ 98 ∨ a = 118) by omega) rfl
theorem tg_568 {M M1 : mm_M} (F : FR (fun a i : Nat => a = 77 ∧ i = 2 ∨ 94 ≤ a ∧ a ≤ 98 ∨ a = 118) M M1) : ∀ a i : Nat, (a = 100 ∨ a = 77 ∧ i = 28) → M1.2.1 a i = M.2.1 a i := fun a i z => F_n F (show ¬ (a = 77 ∧ i = 2 ∨ 94 ≤ a ∧ a ≤ 98 ∨ a = 118) by omega) rfl
theorem tg_569 {M M1 : mm_M} (F : FR (fun a i : Nat => a = 77 ∧ i = 2 ∨ 94 ≤ a ∧ a ≤ 98 ∨ a = 118) M M1) : ∀ a i : Nat, KQ_r a i → M1.2.1 a i = M.2.1 a i := fun a i z => F_n F (show ¬ (a = 77 ∧ i = 2 ∨ 94 ≤ a ∧ a ≤ 98 ∨ a = 118) by omega) rfl
theorem tg_570 {M M1 : mm_M} (F : FR (fun a i : Nat => a = 77 ∧ i = 2 ∨ 94 ≤ a ∧ a ≤ 98 ∨ a = 118) M M1) : ∀ a i : Nat, (a = 1 ∧ i = 1 ∨ a = 2 ∨ a = 78) → M1.2.1 a i = M.2.1 a i := fun a i z => F_n F (show ¬ (a = 77 ∧ i = 2 ∨ 94 ≤ a ∧ a ≤ 98 ∨ a = 118) by omega) rfl
theorem tg_571 {M M1 : mm_M} (F : FR (fun a i : Nat => a = 77 ∧ i = 2 ∨ 94 ≤ a ∧ a ≤ 98 ∨ a = 118) M M1) : ∀ a i : Nat, a = 79 → M1.2.1 a i = M.2.1 a i := fun a i z => F_n F (show ¬ (a = 77 ∧ i = 2 ∨ 94 ≤ a ∧ a ≤ 98 ∨ a = 118) by omega) rfl
theorem tg_572 {M M1 : mm_M} (F : FR (fun a i : Nat => a = 77 ∧ i = 2 ∨ 94 ≤ a ∧ a ≤ 98 ∨ a = 118) M M1) : ∀ a i : Nat, 88 ≤ a ∧ a ≤ 89 → M1.2.1 a i = M.2.1 a i := fun a i z => F_n F (show ¬ (a = 77 ∧ i = 2 ∨ 94 ≤ a ∧ a ≤ 98 ∨ a = 118) by omega) rfl
theorem tg_573 {M M1 : mm_M} (F : FR (fun a i : Nat => a = 77 ∧ i = 2 ∨ 94 ≤ a ∧ a ≤ 98 ∨ a = 119) M M1) : ∀ a i : Nat, PI_r a → M1.2.1 a i = M.2.1 a i := fun a i z => F_n F (show ¬ (a = 77 ∧ i = 2 ∨ 94 ≤ a ∧ a ≤ 98 ∨ a = 119) by omega) rfl
theorem tg_574 {M M1 : mm_M} (F : FR (fun a i : Nat => a = 77 ∧ i = 2 ∨ 94 ≤ a ∧ a ≤ 98 ∨ a = 119) M M1) : ∀ a i : Nat, (7 ≤ a ∧ a ≤ 9) → M1.2.1 a i = M.2.1 a i := fun a i z => F_n F (show ¬ (a = 77 ∧ i = 2 ∨ 94 ≤ a ∧ a ≤ 98 ∨ a = 119) by omega) rfl
theorem tg_575 {M M1 : mm_M} (F : FR (fun a i : Nat => a = 77 ∧ i = 2 ∨ 94 ≤ a ∧ a ≤ 98 ∨ a = 119) M M1) : ∀ a i : Nat, (a = 68 ∨ a = 69 ∨ a = 73 ∨ a = 74) → M1.2.1 a i = M.2.1 a i := fun a i z => F_n F (show ¬ (a = 77 ∧ i = 2 ∨ 94 ≤ a ∧ a ≤ 98 ∨ a = 119) by omega) rfl
theorem tg_576 {M M1 : mm_M} (F : FR (fun a i : Nat => a = 77 ∧ i = 2 ∨ 94 ≤ a ∧ a ≤ 98 ∨ a = 119) M M1) : ∀ a i : Nat, (81 ≤ a ∧ a ≤ 84) → M1.2.1 a i = M.2.1 a i := fun a i z => F_n F (show ¬ (a = 77 ∧ i = 2 ∨ 94 ≤ a ∧ a ≤ 98 ∨ a = 119) by omega) rfl
theorem tg_577 {M M1 : mm_M} (F : FR (fun a i : Nat => a = 77 ∧ i = 2 ∨ 94 ≤ a ∧ a ≤ 98 ∨ a = 119) M M1) : ∀ a i : Nat, WC_r a i → M1.2.1 a i = M.2.1 a i := fun a i z => F_n F (show ¬ (a = 77 ∧ i = 2 ∨ 94 ≤ a ∧ a ≤ 98 ∨ a = 119) by omega) rfl
theorem tg_578 {M M1 : mm_M} (F : FR (fun a i : Nat => a = 77 ∧ i = 2 ∨ 94 ≤ a ∧ a ≤ 98 ∨ a = 119) M M1) : ∀ a i : Nat, NJ_r a i → M1.2.1 a i = M.2.1 a i := fun a i z => F_n F (show ¬ (a = 77 ∧ i = 2 ∨ 94 ≤ a ∧ a ≤ 98 ∨ a = 119) by omega) rfl
theorem tg_579 {M M1 : mm_M} (F : FR (fun a i : Nat => a = 77 ∧ i = 2 ∨ 94 ≤ a ∧ a ≤ 98 ∨ a = 119) M M1) : ∀ a i : Nat, (a = 100 ∨ a = 77 ∧ i = 28) → M1.2.1 a i = M.2.1 a i := fun a i z => F_n F (show ¬ (a = 77 ∧ i = 2 ∨ 94 ≤ a ∧ a ≤ 98 ∨ a = 119) by omega) rfl
theorem tg_580 {M M1 : mm_M} (F : FR (fun a i : Nat => a = 77 ∧ i = 2 ∨ 94 ≤ a ∧ a ≤ 98 ∨ a = 119) M M1) : ∀ a i : Nat, KQ_r a i → M1.2.1 a i = M.2.1 a i := fun a i z => F_n F (show ¬ (a = 77 ∧ i = 2 ∨ 94 ≤ a ∧ a ≤ 98 ∨ a = 119) by omega) rfl
theorem tg_581 {M M1 : mm_M} (F : FR (fun a i : Nat => a = 77 ∧ i = 2 ∨ 94 ≤ a ∧ a ≤ 98 ∨ a = 119) M M1) : ∀ a i : Nat, (a = 1 ∧ i = 1 ∨ a = 2 ∨ a = 78) → M1.2.1 a i = M.2.1 a i := fun a i z => F_n F (show ¬ (a = 77 ∧ i = 2 ∨ 94 ≤ a ∧ a ≤ 98 ∨ a = 119) by omega) rfl
theorem tg_582 {M M1 : mm_M} (F : FR (fun a i : Nat => a = 77 ∧ i = 2 ∨ 94 ≤ a ∧ a ≤ 98 ∨ a = 119) M M1) : ∀ a i : Nat, a = 79 → M1.2.1 a i = M.2.1 a i := fun a i z => F_n F (show ¬ (a = 77 ∧ i = 2 ∨ 94 ≤ a ∧ a ≤ 98 ∨ a = 119) by omega) rfl
theorem tg_583 {M M1 : mm_M} (F : FR (fun a i : Nat => a = 77 ∧ i = 2 ∨ 94 ≤ a ∧ a ≤ 98 ∨ a = 119) M M1) : ∀ a i : Nat, 88 ≤ a ∧ a ≤ 89 → M1.2.1 a i = M.2.1 a i := fun a i z => F_n F (show ¬ (a = 77 ∧ i = 2 ∨ 94 ≤ a ∧ a ≤ 98 ∨ a = 119) by omega) rfl
theorem tg_584 {M M1 : mm_M} (F : FR (fun a i : Nat => a = 77 ∧ i = 2 ∨ 94 ≤ a ∧ a ≤ 98 ∨ a = 120) M M1) : ∀ a i : Nat, PI_r a → M1.2.1 a i = M.2.1 a i := fun a i z => F_n F (show ¬ (a = 77 ∧ i = 2 ∨ 94 ≤ a ∧ a ≤ 98 ∨ a = 120) by omega) rfl
theorem tg_585 {M M1 : mm_M} (F : FR (fun a i : Nat => a = 77 ∧ i = 2 ∨ 94 ≤ a ∧ a ≤ 98 ∨ a = 120) M M1) : ∀ a i : Nat, (7 ≤ a ∧ a ≤ 9) → M1.2.1 a i = M.2.1 a i := fun a i z => F_n F (show ¬ (a = 77 ∧ i = 2 ∨ 94 ≤ a ∧ a ≤ 98 ∨ a = 120) by omega) rfl
theorem tg_586 {M M1 : mm_M} (F : FR (fun a i : Nat => a = 77 ∧ i = 2 ∨ 94 ≤ a ∧ a ≤ 98 ∨ a = 120) M M1) : ∀ a i : Nat, (a = 68 ∨ a = 69 ∨ a = 73 ∨ a = 74) → M1.2.1 a i = M.2.1 a i := fun a i z => F_n F (show ¬ (a = 77 ∧ i = 2 ∨ 94 ≤ a ∧ a ≤ 98 ∨ a = 120) by omega) rfl
theorem tg_587 {M M1 : mm_M} (F : FR (fun a i : Nat => a = 77 ∧ i = 2 ∨ 94 ≤ a ∧ a ≤ 98 ∨ a = 120) M M1) : ∀ a i : Nat, (81 ≤ a ∧ a ≤ 84) → M1.2.1 a i = M.2.1 a i := fun a i z => F_n F (show ¬ (a = 77 ∧ i = 2 ∨ 94 ≤ a ∧ a ≤ 98 ∨ a = 120) by omega) rfl
theorem tg_588 {M M1 : mm_M} (F : FR (fun a i : Nat => a = 77 ∧ i = 2 ∨ 94 ≤ a ∧ a ≤ 98 ∨ a = 120) M M1) : ∀ a i : Nat, WC_r a i → M1.2.1 a i = M.2.1 a i := fun a i z => F_n F (show ¬ (a = 77 ∧ i = 2 ∨ 94 ≤ a ∧ a ≤ 98 ∨ a = 120) by omega) rfl
theorem tg_589 {M M1 : mm_M} (F : FR (fun a i : Nat => a = 77 ∧ i = 2 ∨ 94 ≤ a ∧ a ≤ 98 ∨ a = 120) M M1) : ∀ a i : Nat, NJ_r a i → M1.2.1 a i = M.2.1 a i := fun a i z => F_n F (show ¬ (a = 77 ∧ i = 2 ∨ 94 ≤ a ∧ a ≤ 98 ∨ a = 120) by omega) rfl
theorem tg_590 {M M1 : mm_M} (F : FR (fun a i : Nat => a = 77 ∧ i = 2 ∨ 94 ≤ a ∧ a ≤ 98 ∨ a = 120) M M1) : ∀ a i : Nat, (a = 100 ∨ a = 77 ∧ i = 28) → M1.2.1 a i = M.2.1 a i := fun a i z => F_n F (show ¬ (a = 77 ∧ i = 2 ∨ 94 ≤ a ∧ a ≤ 98 ∨ a = 120) by omega) rfl
theorem tg_591 {M M1 : mm_M} (F : FR (fun a i : Nat => a = 77 ∧ i = 2 ∨ 94 ≤ a ∧ a ≤ 98 ∨ a = 120) M M1) : ∀ a i : Nat, KQ_r a i → M1.2.1 a i = M.2.1 a i := fun a i z => F_n F (show ¬ (a = 77 ∧ i = 2 ∨ 94 ≤ a ∧ a ≤ 98 ∨ a = 120) by omega) rfl
theorem tg_592 {M M1 : mm_M} (F : FR (fun a i : Nat => a = 77 ∧ i = 2 ∨ 94 ≤ a ∧ a ≤ 98 ∨ a = 120) M M1) : ∀ a i : Nat, (a = 1 ∧ i = 1 ∨ a = 2 ∨ a = 78) → M1.2.1 a i = M.2.1 a i := fun a i z => F_n F (show ¬ (a = 77 ∧ i = 2 ∨ 94 ≤ a ∧ a ≤ 98 ∨ a = 120) by omega) rfl
theorem tg_593 {M M1 : mm_M} (F : FR (fun a i : Nat => a = 77 ∧ i = 2 ∨ 94 ≤ a ∧ a ≤ 98 ∨ a = 120) M M1) : ∀ a i : Nat, a = 79 → M1.2.1 a i = M.2.1 a i := fun a i z => F_n F (show ¬ (a = 77 ∧ i = 2 ∨ 94 ≤ a ∧ a ≤ 98 ∨ a = 120) by omega) rfl
theorem tg_594 {M M1 : mm_M} (F : FR (fun a i : Nat => a = 77 ∧ i = 2 ∨ 94 ≤ a ∧ a ≤ 98 ∨ a = 120) M M1) : ∀ a i : Nat, 88 ≤ a ∧ a ≤ 89 → M1.2.1 a i = M.2.1 a i := fun a i z => F_n F (show ¬ (a = 77 ∧ i = 2 ∨ 94 ≤ a ∧ a ≤ 98 ∨ a = 120) by omega) rfl
theorem tg_595 {M M1 : mm_M} (F : FR (fun a i : Nat => a = 77 ∧ i = 2 ∨ 94 ≤ a ∧ a ≤ 98 ∨ 121 ≤ a ∧ a ≤ 124) M M1) : ∀ a i : Nat, PI_r a → M1.2.1 a i = M.2.1 a i := fun a i z => F_n F (show ¬ (a = 77 ∧ i = 2 ∨ 94 ≤ a ∧ a ≤ 98 ∨ 121 ≤ a ∧ a ≤ 124) by omega) rfl
theorem tg_596 {M M1 : mm_M} (F : FR (fun a i : Nat => a = 77 ∧ i = 2 ∨ 94 ≤ a ∧ a ≤ 98 ∨ 121 ≤ a ∧ a ≤ 124) M M1) : ∀ a i : Nat, (7 ≤ a ∧ a ≤ 9) → M1.2.1 a i = M.2.1 a i := fun a i z => F_n F (show ¬ (a = 77 ∧ i = 2 ∨ 94 ≤ a ∧ a ≤ 98 ∨ 121 ≤ a ∧ a ≤ 124) by omega) rfl
theorem tg_597 {M M1 : mm_M} (F : FR (fun a i : Nat => a = 77 ∧ i = 2 ∨ 94 ≤ a ∧ a ≤ 98 ∨ 121 ≤ a ∧ a ≤ 124) M M1) : ∀ a i : Nat, (a = 68 ∨ a = 69 ∨ a = 73 ∨ a = 74) → M1.2.1 a i = M.2.1 a i := fun a i z => F_n F (show ¬ (a = 77 ∧ i = 2 ∨ 94 ≤ a ∧ a ≤ 98 ∨ 121 ≤ a ∧ a ≤ 124) by omega) rfl
theorem tg_598 {M M1 : mm_M} (F : FR (fun a i : Nat => a = 77 ∧ i = 2 ∨ 94 ≤ a ∧ a ≤ 98 ∨ 121 ≤ a ∧ a ≤ 124) M M1) : ∀ a i : Nat, (81 ≤ a ∧ a ≤ 84) → M1.2.1 a i = M.2.1 a i := fun a i z => F_n F (show ¬ (a = 77 ∧ i = 2 ∨ 94 ≤ a ∧ a ≤ 98 ∨ 121 ≤ a ∧ a ≤ 124) by omega) rfl
theorem tg_599 {M M1 : mm_M} (F : FR (fun a i : Nat => a = 77 ∧ i = 2 ∨ 94 ≤ a ∧ a ≤ 98 ∨ 121 ≤ a ∧ a ≤ 124) M M1) : ∀ a i : Nat, WC_r a i → M1.2.1 a i = M.2.1 a i := fun a i z => F_n F (show ¬ (a = 77 ∧ i = 2 ∨ 94 ≤ a ∧ a ≤ 98 ∨ 121 ≤ a ∧ a ≤ 124) by omega) rfl
theorem tg_600 {M M1 : mm_M} (F : FR (fun a i : Nat => a = 77 ∧ i = 2 ∨ 94 ≤ a ∧ a ≤ 98 ∨ 121 ≤ a ∧ a ≤ 124) M M1) : ∀ a i : Nat, NJ_r a i → M1.2.1 a i = M.2.1 a i := fun a i z => F_n F (show ¬ (a = 77 ∧ i = 2 ∨ 94 ≤ a ∧ a ≤ 98 ∨ 121 ≤ a ∧ a ≤ 124) by omega) rfl
theorem tg_601 {M M1 : mm_M} (F : FR (fun a i : Nat => a = 77 ∧ i = 2 ∨ 94 ≤ a ∧ a ≤ 98 ∨ 121 ≤ a ∧ a ≤ 124) M M1) : ∀ a i : Nat, (a = 100 ∨ a = 77 ∧ i = 28) → M1.2.1 a i = M.2.1 a i := fun a i z => F_n F (show ¬ (a = 77 ∧ i = 2 ∨ 94 ≤ a ∧ a ≤ 98 ∨ 121 ≤ a ∧ a ≤ 124) by omega) rfl
theorem tg_602 {M M1 : mm_M} (F : FR (fun a i : Nat => a = 77 ∧ i = 2 ∨ 94 ≤ a ∧ a ≤ 98 ∨ 121 ≤ a ∧ a ≤ 124) M M1) : ∀ a i : Nat, KQ_r a i → M1.2.1 a i = M.2.1 a i := fun a i z => F_n F (show ¬ (a = 77 ∧ i = 2 ∨ 94 ≤ a ∧ a ≤ 98 ∨ 121 ≤ a ∧ a ≤ 124) by omega) rfl
theorem tg_603 {M M1 : mm_M} (F : FR (fun a i : Nat => a = 77 ∧ i = 2 ∨ 94 ≤ a ∧ a ≤ 98 ∨ 121 ≤ a ∧ a ≤ 124) M M1) : ∀ a i : Nat, (a = 1 ∧ i = 1 ∨ a = 2 ∨ a = 78) → M1.2.1 a i = M.2.1 a i := fun a i z => F_n F (show ¬ (a = 77 ∧ i = 2 ∨ 94 ≤ a ∧ a ≤ 98 ∨ 121 ≤ a ∧ a ≤ 124) by omega) rfl
theorem tg_604 {M M1 : mm_M} (F : FR (fun a i : Nat => a = 77 ∧ i = 2 ∨ 94 ≤ a ∧ a ≤ 98 ∨ 121 ≤ a ∧ a ≤ 124) M M1) : ∀ a i : Nat, a = 79 → M1.2.1 a i = M.2.1 a i := fun a i z => F_n F (show ¬ (a = 77 ∧ i = 2 ∨ 94 ≤ a ∧ a ≤ 98 ∨ 121 ≤ a ∧ a ≤ 124) by omega) rfl
theorem tg_605 {M M1 : mm_M} (F : FR (fun a i : Nat => a = 77 ∧ i = 2 ∨ 94 ≤ a ∧ a ≤ 98 ∨ 121 ≤ a ∧ a ≤ 124) M M1) : ∀ a i : Nat, 88 ≤ a ∧ a ≤ 89 → M1.2.1 a i = M.2.1 a i := fun a i z => F_n F (show ¬ (a = 77 ∧ i = 2 ∨ 94 ≤ a ∧ a ≤ 98 ∨ 121 ≤ a ∧ a ≤ 124) by omega) rfl
theorem tg_606 : ∀ a i : Nat, (49 ≤ a ∧ a ≤ 66 ∨ a = 77 ∧ 11 ≤ i ∧ i ≤ 13 ∨ 80 ≤ a ∧ a ≤ 87 ∨ 6 ≤ a ∧ a ≤ 10 ∨ 90 ≤ a ∧ a ≤ 93 ∨ a = 0 ∧ i = 12) → ¬ (a = 77 ∧ (i = 2 ∨ i = 41)) := fun a i z => by omega
theorem tg_607 : ∀ a i : Nat, (49 ≤ a ∧ a ≤ 66 ∨ a = 77 ∧ 11 ≤ i ∧ i ≤ 13 ∨ 80 ≤ a ∧ a ≤ 87 ∨ 6 ≤ a ∧ a ≤ 10 ∨ 90 ≤ a ∧ a ≤ 93 ∨ a = 0 ∧ i = 12) → ¬ (a = 17) := fun a i z => by omega
theorem tg_608 : ∀ a i : Nat, (49 ≤ a ∧ a ≤ 66 ∨ a = 77 ∧ 11 ≤ i ∧ i ≤ 13 ∨ 80 ≤ a ∧ a ≤ 87 ∨ 6 ≤ a ∧ a ≤ 10 ∨ 90 ≤ a ∧ a ≤ 93 ∨ a = 0 ∧ i = 12) → ¬ (a = 77 ∧ (i = 2 ∨ i = 41) ∨ a = 99 ∨ a = 100) := fun a i z => by omega
theorem tg_609 : ∀ a i : Nat, (49 ≤ a ∧ a ≤ 66 ∨ a = 77 ∧ 11 ≤ i ∧ i ≤ 13 ∨ 80 ≤ a ∧ a ≤ 87 ∨ 6 ≤ a ∧ a ≤ 10 ∨ 90 ≤ a ∧ a ≤ 93 ∨ a = 0 ∧ i = 12) → ¬ (17 ≤ a ∧ a ≤ 27) := fun a i z => by omega
theorem tg_610 : ∀ a i : Nat, (49 ≤ a ∧ a ≤ 66 ∨ a = 77 ∧ 11 ≤ i ∧ i ≤ 13 ∨ 80 ≤ a ∧ a ≤ 87 ∨ 6 ≤ a ∧ a ≤ 10 ∨ 90 ≤ a ∧ a ≤ 93 ∨ a = 0 ∧ i = 12) → ¬ (a = 77 ∧ i = 2 ∨ 94 ≤ a ∧ a ≤ 98 ∨ a = 117) := fun a i z => by omega
theorem tg_611 : ∀ a i : Nat, (49 ≤ a ∧ a ≤ 66 ∨ a = 77 ∧ 11 ≤ i ∧ i ≤ 13 ∨ 80 ≤ a ∧ a ≤ 87 ∨ 6 ≤ a ∧ a ≤ 10 ∨ 90 ≤ a ∧ a ≤ 93 ∨ a = 0 ∧ i = 12) → ¬ (11 ≤ a ∧ a ≤ 16 ∨ a = 71 ∨ a = 76) := fun a i z => by omega
theorem tg_612 : ∀ a i : Nat, (49 ≤ a ∧ a ≤ 66 ∨ a = 77 ∧ 11 ≤ i ∧ i ≤ 13 ∨ 80 ≤ a ∧ a ≤ 87 ∨ 6 ≤ a ∧ a ≤ 10 ∨ 90 ≤ a ∧ a ≤ 93 ∨ a = 0 ∧ i = 12) → ¬ (a = 77 ∧ i = 2 ∨ 94 ≤ a ∧ a ≤ 98 ∨ a = 118) := fun a i z => by omega
theorem tg_613 : ∀ a i : Nat, (49 ≤ a ∧ a ≤ 66 ∨ a = 77 ∧ 11 ≤ i ∧ i ≤ 13 ∨ 80 ≤ a ∧ a ≤ 87 ∨ 6 ≤ a ∧ a ≤ 10 ∨ 90 ≤ a ∧ a ≤ 93 ∨ a = 0 ∧ i = 12) → ¬ (a = 77 ∧ i = 2 ∨ 94 ≤ a ∧ a ≤ 98 ∨ a = 119) := fun a i z => by omega
theorem tg_614 : ∀ a i : Nat, (49 ≤ a ∧ a ≤ 66 ∨ a = 77 ∧ 11 ≤ i ∧ i ≤ 13 ∨ 80 ≤ a ∧ a ≤ 87 ∨ 6 ≤ a ∧ a ≤ 10 ∨ 90 ≤ a ∧ a ≤ 93 ∨ a = 0 ∧ i = 12) → ¬ (a = 77 ∧ i = 2 ∨ 94 ≤ a ∧ a ≤ 98 ∨ a = 120) := fun a i z => by omega
theorem tg_615 : ∀ a i : Nat, (49 ≤ a ∧ a ≤ 66 ∨ a = 77 ∧ 11 ≤ i ∧ i ≤ 13 ∨ 80 ≤ a ∧ a ≤ 87 ∨ 6 ≤ a ∧ a ≤ 10 ∨ 90 ≤ a ∧ a ≤ 93 ∨ a = 0 ∧ i = 12) → ¬ (a = 77 ∧ i = 2 ∨ 94 ≤ a ∧ a ≤ 98 ∨ 121 ≤ a ∧ a ≤ 124) := fun a i z => by omega
set_option maxRecDepth 4000 in
set_option maxHeartbeats 0 in
theorem LW_15 {X : mm_X} {d L : Nat} {M : mm_M} {Q : Option Value → mm_M → Prop} {i : Int32} {u5 u6 : Value} (hX : g_X X) (hW : g_W X) (hW2 : g_W2 X) (hL : (X 0).1 = L) (h3 : L ≤ 3072) (hd : 40 ≤ d) (hi : 0 ≤ i.toInt) (hi2 : i.toInt + 6 ≤ (L : Int)) (H : LI9 M) (h : ∀ (M1 : mm_M) (v5 v6 : Value), LI9 M1 → M1.1.2.1 ≤ M.1.2.1 + 1 → M1.1.2.2.1 ≤ M.1.2.2.1 + 6 → mm_T X d 0 1313 [.ref mm_ext, .ref 0, .ref 77, .ref 125, .int i, v5, v6] [] M1 Q) : mm_T X d 0 726 [.ref mm_ext, .ref 0, .ref 77, .ref 125, .int i, u5, u6] [] M Q := by
  obtain ⟨⟨⟨⟨⟨⟨⟨⟨hG, ⟨jPI, jNI, jQI, jPQE⟩, ⟨jFA, jWC, jNJ, jPS, jKQ⟩, jJ, jE⟩, jTP, jW9⟩, jNE, jCC⟩, -⟩, jOV⟩, jW8⟩, jNN⟩, jAN⟩ := H
  have b_1 := g_b hG (a := 77) (i := 7) (lo := 0) (hi := 500) rfl rfl
  have b_2 := g_b hG (a := 77) (i := 6) (lo := 0) (hi := 500) rfl rfl
  have b_3 := g_b hG (a := 1) (i := 1) (lo := 0) (hi := 500) rfl rfl
  have b_4 := g_b hG (a := 77) (i := 1) (lo := 0) (hi := 500) rfl rfl
  have b_5 := g_b hG (a := 0) (i := 12) (lo := 0) (hi := 30) rfl rfl
  have b_6 := g_b hG (a := 77) (i := 28) (lo := 0) (hi := 30) rfl rfl
  have b_7 := g_b hG (a := 6) (i := 0) (lo := 0) (hi := 150) rfl rfl
  have b_8 := g_b hG (a := 77) (i := 29) (lo := 0) (hi := 150) rfl rfl
  refine to_an (pc := 726) rw_0_726 rfl (to_an (pc := 727) rw_0_727 rfl (to_i (pc := 728) rw_0_728 rfl (to_c (pc := 730) rw_0_730 (x := (1 : Int32)) rfl rfl (s_add (pc := 731) rw_0_731 (A := i.toInt) (B := 1) rfl rfl (by omega) (fun v9 e10 => s_x0 (pc := 732) rw_0_732 hL (A := v9.toInt) rfl (by omega) (by omega) (fun v11 e12 => to_an (pc := 733) rw_0_733 rfl (to_i (pc := 734) rw_0_734 rfl (to_c (pc := 736) rw_0_736 (x := (2 : Int32)) rfl rfl (s_add (pc := 737) rw_0_737 (A := i.toInt) (B := 2) rfl rfl (by omega) (fun v13 e14 => s_x0 (pc := 738) rw_0_738 hL (A := v13.toInt) rfl (by omega) (by omega) (fun v15 e16 => s_v (pc := 739) rw_0_739 (dp0 hd (by decide)) (ls0 := [.ref 0, .int v11, .int v15]) rfl (Nat.le_of_ble_eq_true rfl) (Nat.le_of_ble_eq_true rfl) rfl (to_rc rfl rfl rfl (g_o hG rfl)) rfl ?_)))))))))))
  obtain ⟨pz17, pzz17, qz17, qzz17, hpz17, hpzz17, hqz17, hqzz17, hpqz17⟩ := id jPQE
  refine C_124 hX (dp1 hd (by decide)) hG hpz17 hpzz17 hqz17 hqzz17 hpqz17 jNI jPI jQI (n := v11) (c := v15) (p := pz17) (pz := pzz17) (q := qz17) (qz := qzz17) (fun r18 M24 hG20 F19 p_21 p_22 p_23 => ?_)
  have n_25 : M24.1.2.1 = M.1.2.1 ∧ M24.1.2.2.1 = M.1.2.2.1 := by rw [F19.1]; exact ⟨rfl, rfl⟩
  refine s_pop2 (pc := 742) rw_0_742 (to_an (pc := 743) rw_0_743 rfl (to_an (pc := 744) rw_0_744 rfl (to_i (pc := 745) rw_0_745 rfl (to_c (pc := 747) rw_0_747 (x := (1 : Int32)) rfl rfl (s_addk (pc := 748) rw_0_748 (A := i.toInt) (B := 1) rfl rfl (by omega) (v := v9) e10 (s_x0k (pc := 749) rw_0_749 hL (A := v9.toInt) rfl (by omega) (by omega) (v := v11) e12 (to_an (pc := 750) rw_0_750 rfl (to_i (pc := 751) rw_0_751 rfl (to_c (pc := 753) rw_0_753 (x := (2 : Int32)) rfl rfl (s_addk (pc := 754) rw_0_754 (A := i.toInt) (B := 2) rfl rfl (by omega) (v := v13) e14 (s_x0k (pc := 755) rw_0_755 hL (A := v13.toInt) rfl (by omega) (by omega) (v := v15) e16 ?_)))))))))))
  refine s_v (pc := 756) rw_0_756 (dp0 hd (by decide)) (ls0 := [.ref 77, .int v11, .int v15]) rfl (Nat.le_of_ble_eq_true rfl) (Nat.le_of_ble_eq_true rfl) rfl (to_rc rfl rfl rfl (g_o hG20 rfl)) rfl ?_
  have j_31 := (NJ_f (tg_438 F19) jNJ)
  refine C_200 hX (dp1 hd (by decide)) hG20 j_31 (n := v11) (c := v15) (fun r32 M35 hG34 F33 => ?_)
  have n_36 : M35.1.2.1 = M24.1.2.1 ∧ M35.1.2.2.1 = M24.1.2.2.1 := by rw [F33.1]; exact ⟨rfl, rfl⟩
  refine s_pop2 (pc := 759) rw_0_759 (to_go (pc := 760) rw_0_760 ?_)
  have c_38 : M35.2.1 77 7 = (M.2.1 77 7) := (F_n F33 (show ¬ (77 = 77 ∧ 7 = 2 ∨ 94 ≤ 77 ∧ 77 ≤ 98) by decide) (F_n F19 (show ¬ (11 ≤ 77 ∧ 77 ≤ 16 ∨ 18 ≤ 77 ∧ 77 ≤ 48 ∨ 67 ≤ 77 ∧ 77 ≤ 76) by decide) rfl))
  have t_39 : (M35.2.1 77 7).toInt = (M.2.1 77 7).toInt := congrArg Int32.toInt c_38
  have c_40 : M35.2.1 77 6 = (M.2.1 77 6) := (F_n F33 (show ¬ (77 = 77 ∧ 6 = 2 ∨ 94 ≤ 77 ∧ 77 ≤ 98) by decide) (F_n F19 (show ¬ (11 ≤ 77 ∧ 77 ≤ 16 ∨ 18 ≤ 77 ∧ 77 ≤ 48 ∨ 67 ≤ 77 ∧ 77 ≤ 76) by decide) rfl))
  have t_41 : (M35.2.1 77 6).toInt = (M.2.1 77 6).toInt := congrArg Int32.toInt c_40
  have c_42 : M35.2.1 1 1 = (M.2.1 1 1) := (F_n F33 (show ¬ (1 = 77 ∧ 1 = 2 ∨ 94 ≤ 1 ∧ 1 ≤ 98) by decide) (F_n F19 (show ¬ (11 ≤ 1 ∧ 1 ≤ 16 ∨ 18 ≤ 1 ∧ 1 ≤ 48 ∨ 67 ≤ 1 ∧ 1 ≤ 76) by decide) rfl))
  have t_43 : (M35.2.1 1 1).toInt = (M.2.1 1 1).toInt := congrArg Int32.toInt c_42
  have c_44 : M35.2.1 77 1 = (M.2.1 77 1) := (F_n F33 (show ¬ (77 = 77 ∧ 1 = 2 ∨ 94 ≤ 77 ∧ 77 ≤ 98) by decide) (F_n F19 (show ¬ (11 ≤ 77 ∧ 77 ≤ 16 ∨ 18 ≤ 77 ∧ 77 ≤ 48 ∨ 67 ≤ 77 ∧ 77 ≤ 76) by decide) rfl))
  have t_45 : (M35.2.1 77 1).toInt = (M.2.1 77 1).toInt := congrArg Int32.toInt c_44
  have c_46 : M35.2.1 0 12 = (M.2.1 0 12) := (F_n F33 (show ¬ (0 = 77 ∧ 12 = 2 ∨ 94 ≤ 0 ∧ 0 ≤ 98) by decide) (F_n F19 (show ¬ (11 ≤ 0 ∧ 0 ≤ 16 ∨ 18 ≤ 0 ∧ 0 ≤ 48 ∨ 67 ≤ 0 ∧ 0 ≤ 76) by decide) rfl))
  have t_47 : (M35.2.1 0 12).toInt = (M.2.1 0 12).toInt := congrArg Int32.toInt c_46
  have c_48 : M35.2.1 77 28 = (M.2.1 77 28) := (F_n F33 (show ¬ (77 = 77 ∧ 28 = 2 ∨ 94 ≤ 77 ∧ 77 ≤ 98) by decide) (F_n F19 (show ¬ (11 ≤ 77 ∧ 77 ≤ 16 ∨ 18 ≤ 77 ∧ 77 ≤ 48 ∨ 67 ≤ 77 ∧ 77 ≤ 76) by decide) rfl))
  have t_49 : (M35.2.1 77 28).toInt = (M.2.1 77 28).toInt := congrArg Int32.toInt c_48
  have c_50 : M35.2.1 17 4 = (M.2.1 17 4) := (F_n F33 (show ¬ (17 = 77 ∧ 4 = 2 ∨ 94 ≤ 17 ∧ 17 ≤ 98) by decide) (F_n F19 (show ¬ (11 ≤ 17 ∧ 17 ≤ 16 ∨ 18 ≤ 17 ∧ 17 ≤ 48 ∨ 67 ≤ 17 ∧ 17 ≤ 76) by decide) rfl))
  have t_51 : (M35.2.1 17 4).toInt = (M.2.1 17 4).toInt := congrArg Int32.toInt c_50
  have c_52 : M35.2.1 77 41 = (M.2.1 77 41) := (F_n F33 (show ¬ (77 = 77 ∧ 41 = 2 ∨ 94 ≤ 77 ∧ 77 ≤ 98) by decide) (F_n F19 (show ¬ (11 ≤ 77 ∧ 77 ≤ 16 ∨ 18 ≤ 77 ∧ 77 ≤ 48 ∨ 67 ≤ 77 ∧ 77 ≤ 76) by decide) rfl))
  have t_53 : (M35.2.1 77 41).toInt = (M.2.1 77 41).toInt := congrArg Int32.toInt c_52
  have c_54 : M35.2.1 6 0 = (M.2.1 6 0) := (F_n F33 (show ¬ (6 = 77 ∧ 0 = 2 ∨ 94 ≤ 6 ∧ 6 ≤ 98) by decide) (F_n F19 (show ¬ (11 ≤ 6 ∧ 6 ≤ 16 ∨ 18 ≤ 6 ∧ 6 ≤ 48 ∨ 67 ≤ 6 ∧ 6 ≤ 76) by decide) rfl))
  have t_55 : (M35.2.1 6 0).toInt = (M.2.1 6 0).toInt := congrArg Int32.toInt c_54
  have c_56 : M35.2.1 77 29 = (M.2.1 77 29) := (F_n F33 (show ¬ (77 = 77 ∧ 29 = 2 ∨ 94 ≤ 77 ∧ 77 ≤ 98) by decide) (F_n F19 (show ¬ (11 ≤ 77 ∧ 77 ≤ 16 ∨ 18 ≤ 77 ∧ 77 ≤ 48 ∨ 67 ≤ 77 ∧ 77 ≤ 76) by decide) rfl))
  have t_57 : (M35.2.1 77 29).toInt = (M.2.1 77 29).toInt := congrArg Int32.toInt c_56
  have j_58 := (PI_f (tg_439 F33) p_21)
  have j_59 := (NI_f (tg_440 F33) p_22)
  have j_60 := (QI_f (tg_441 F33) p_23)
  have j_61 := (PQE_r F33.2.1 (PQE_r F19.2.1 jPQE))
  have j_62 := (FA_f (tg_442 F33) (FA_f (tg_443 F19) jFA))
  have j_63 := (WC_f (tg_444 F33) (WC_f (tg_445 F19) jWC))
  have j_64 := (NJ_f (tg_446 F33) j_31)
  have j_65 := (PS_f (tg_447 F33) (PS_f (tg_448 F19) jPS))
  have j_66 := (KQ_f (tg_449 F33) (KQ_f (tg_450 F19) jKQ))
  have j_67 := (TP_f (tg_451 F33) (TP_f (tg_452 F19) jTP))
  have j_68 := (W9_f (tg_453 F33) (W9_f (tg_454 F19) jW9))
  have j_69 := (AN_F F33 tg_501 (AN_F F19 tg_502 jAN))
  have j_70 := (NE_r F33.2.1 (NE_r F19.2.1 jNE))
  have j_71 := (W8_f (tg_455 F33) (W8_f (tg_456 F19) jW8))
  exact h M35 (u5) (u6) ⟨⟨⟨⟨⟨⟨⟨⟨hG34, ⟨j_58, j_59, j_60, j_61⟩, ⟨j_62, j_63, j_64, j_65, j_66⟩, by omega, by omega⟩, j_67, j_68⟩, j_70, by omega⟩, AN_a j_69⟩, by omega⟩, j_71⟩, by omega⟩, j_69⟩ (by omega) (by omega)
set_option maxRecDepth 4000 in
set_option maxHeartbeats 0 in
theorem LW_16 {X : mm_X} {d L : Nat} {M : mm_M} {Q : Option Value → mm_M → Prop} {i : Int32} {u5 u6 : Value} (hX : g_X X) (hW : g_W X) (hW2 : g_W2 X) (hL : (X 0).1 = L) (h3 : L ≤ 3072) (hd : 40 ≤ d) (hi : 0 ≤ i.toInt) (hi2 : i.toInt + 6 ≤ (L : Int)) (H : LI9 M) (h : ∀ (M1 : mm_M) (v5 v6 : Value), LI9 M1 → M1.1.2.1 ≤ M.1.2.1 + 1 → M1.1.2.2.1 ≤ M.1.2.2.1 + 6 → mm_T X d 0 1313 [.ref mm_ext, .ref 0, .ref 77, .ref 125, .int i, v5, v6] [] M1 Q) : mm_T X d 0 763 [.ref mm_ext, .ref 0, .ref 77, .ref 125, .int i, u5, u6] [] M Q := by
  obtain ⟨⟨⟨⟨⟨⟨⟨⟨hG, ⟨jPI, jNI, jQI, jPQE⟩, ⟨jFA, jWC, jNJ, jPS, jKQ⟩, jJ, jE⟩, jTP, jW9⟩, jNE, jCC⟩, -⟩, jOV⟩, jW8⟩, jNN⟩, jAN⟩ := H
  have b_1 := g_b hG (a := 77) (i := 7) (lo := 0) (hi := 500) rfl rfl
  have b_2 := g_b hG (a := 77) (i := 6) (lo := 0) (hi := 500) rfl rfl
  have b_3 := g_b hG (a := 1) (i := 1) (lo := 0) (hi := 500) rfl rfl
  have b_4 := g_b hG (a := 77) (i := 1) (lo := 0) (hi := 500) rfl rfl
  have b_5 := g_b hG (a := 0) (i := 12) (lo := 0) (hi := 30) rfl rfl
  have b_6 := g_b hG (a := 77) (i := 28) (lo := 0) (hi := 30) rfl rfl
  have b_7 := g_b hG (a := 6) (i := 0) (lo := 0) (hi := 150) rfl rfl
  have b_8 := g_b hG (a := 77) (i := 29) (lo := 0) (hi := 150) rfl rfl
  refine to_an (pc := 763) rw_0_763 rfl (to_an (pc := 764) rw_0_764 rfl (to_i (pc := 765) rw_0_765 rfl (to_c (pc := 767) rw_0_767 (x := (1 : Int32)) rfl rfl (s_add (pc := 768) rw_0_768 (A := i.toInt) (B := 1) rfl rfl (by omega) (fun v9 e10 => s_x0 (pc := 769) rw_0_769 hL (A := v9.toInt) rfl (by omega) (by omega) (fun v11 e12 => to_an (pc := 770) rw_0_770 rfl (to_i (pc := 771) rw_0_771 rfl (to_c (pc := 773) rw_0_773 (x := (2 : Int32)) rfl rfl (s_add (pc := 774) rw_0_774 (A := i.toInt) (B := 2) rfl rfl (by omega) (fun v13 e14 => s_x0 (pc := 775) rw_0_775 hL (A := v13.toInt) rfl (by omega) (by omega) (fun v15 e16 => to_an (pc := 776) rw_0_776 rfl ?_)))))))))))
  refine to_i (pc := 777) rw_0_777 rfl (to_c (pc := 779) rw_0_779 (x := (3 : Int32)) rfl rfl (s_add (pc := 780) rw_0_780 (A := i.toInt) (B := 3) rfl rfl (by omega) (fun v17 e18 => s_x0 (pc := 781) rw_0_781 hL (A := v17.toInt) rfl (by omega) (by omega) (fun v19 e20 => s_v (pc := 782) rw_0_782 (dp0 hd (by decide)) (ls0 := [.ref 0, .int v11, .int v15, .int v19]) rfl (Nat.le_of_ble_eq_true rfl) (Nat.le_of_ble_eq_true rfl) rfl (to_rc rfl rfl rfl (g_o hG rfl)) rfl ?_))))
  obtain ⟨pz21, pzz21, qz21, qzz21, hpz21, hpzz21, hqz21, hqzz21, hpqz21⟩ := id jPQE
  refine C_125 hX (dp1 hd (by decide)) hG hpz21 hpzz21 hqz21 hqzz21 hpqz21 jNI jPI jQI (n := v11) (c := v15) (f := v19) (p := pz21) (pz := pzz21) (q := qz21) (qz := qzz21) (fun r22 M28 hG24 F23 p_25 p_26 p_27 => ?_)
  have n_29 : M28.1.2.1 = M.1.2.1 ∧ M28.1.2.2.1 = M.1.2.2.1 := by rw [F23.1]; exact ⟨rfl, rfl⟩
  refine to_popi (pc := 785) rw_0_785 (to_an (pc := 786) rw_0_786 rfl (to_an (pc := 787) rw_0_787 rfl (to_i (pc := 788) rw_0_788 rfl (to_c (pc := 790) rw_0_790 (x := (1 : Int32)) rfl rfl (s_addk (pc := 791) rw_0_791 (A := i.toInt) (B := 1) rfl rfl (by omega) (v := v9) e10 (s_x0k (pc := 792) rw_0_792 hL (A := v9.toInt) rfl (by omega) (by omega) (v := v11) e12 (to_an (pc := 793) rw_0_793 rfl (to_i (pc := 794) rw_0_794 rfl (to_c (pc := 796) rw_0_796 (x := (2 : Int32)) rfl rfl (s_addk (pc := 797) rw_0_797 (A := i.toInt) (B := 2) rfl rfl (by omega) (v := v13) e14 (s_x0k (pc := 798) rw_0_798 hL (A := v13.toInt) rfl (by omega) (by omega) (v := v15) e16 ?_)))))))))))
  refine to_an (pc := 799) rw_0_799 rfl (to_i (pc := 800) rw_0_800 rfl (to_c (pc := 802) rw_0_802 (x := (3 : Int32)) rfl rfl (s_addk (pc := 803) rw_0_803 (A := i.toInt) (B := 3) rfl rfl (by omega) (v := v17) e18 (s_x0k (pc := 804) rw_0_804 hL (A := v17.toInt) rfl (by omega) (by omega) (v := v19) e20 (s_v (pc := 805) rw_0_805 (dp0 hd (by decide)) (ls0 := [.ref 77, .int v11, .int v15, .int v19]) rfl (Nat.le_of_ble_eq_true rfl) (Nat.le_of_ble_eq_true rfl) rfl (to_rc rfl rfl rfl (g_o hG24 rfl)) rfl ?_)))))
  have j_37 := (NJ_f (tg_438 F23) jNJ)
  refine C_202 hX (dp1 hd (by decide)) hG24 j_37 (n := v11) (c := v15) (f := v19) (fun r38 M41 hG40 F39 => ?_)
  have n_42 : M41.1.2.1 = M28.1.2.1 ∧ M41.1.2.2.1 = M28.1.2.2.1 := by rw [F39.1]; exact ⟨rfl, rfl⟩
  refine to_popi (pc := 808) rw_0_808 (to_go (pc := 809) rw_0_809 ?_)
  have c_44 : M41.2.1 77 7 = (M.2.1 77 7) := (F_n F39 (show ¬ (77 = 77 ∧ 7 = 2 ∨ 94 ≤ 77 ∧ 77 ≤ 98) by decide) (F_n F23 (show ¬ (11 ≤ 77 ∧ 77 ≤ 16 ∨ 18 ≤ 77 ∧ 77 ≤ 48 ∨ 67 ≤ 77 ∧ 77 ≤ 76) by decide) rfl))
  have t_45 : (M41.2.1 77 7).toInt = (M.2.1 77 7).toInt := congrArg Int32.toInt c_44
  have c_46 : M41.2.1 77 6 = (M.2.1 77 6) := (F_n F39 (show ¬ (77 = 77 ∧ 6 = 2 ∨ 94 ≤ 77 ∧ 77 ≤ 98) by decide) (F_n F23 (show ¬ (11 ≤ 77 ∧ 77 ≤ 16 ∨ 18 ≤ 77 ∧ 77 ≤ 48 ∨ 67 ≤ 77 ∧ 77 ≤ 76) by decide) rfl))
  have t_47 : (M41.2.1 77 6).toInt = (M.2.1 77 6).toInt := congrArg Int32.toInt c_46
  have c_48 : M41.2.1 1 1 = (M.2.1 1 1) := (F_n F39 (show ¬ (1 = 77 ∧ 1 = 2 ∨ 94 ≤ 1 ∧ 1 ≤ 98) by decide) (F_n F23 (show ¬ (11 ≤ 1 ∧ 1 ≤ 16 ∨ 18 ≤ 1 ∧ 1 ≤ 48 ∨ 67 ≤ 1 ∧ 1 ≤ 76) by decide) rfl))
  have t_49 : (M41.2.1 1 1).toInt = (M.2.1 1 1).toInt := congrArg Int32.toInt c_48
  have c_50 : M41.2.1 77 1 = (M.2.1 77 1) := (F_n F39 (show ¬ (77 = 77 ∧ 1 = 2 ∨ 94 ≤ 77 ∧ 77 ≤ 98) by decide) (F_n F23 (show ¬ (11 ≤ 77 ∧ 77 ≤ 16 ∨ 18 ≤ 77 ∧ 77 ≤ 48 ∨ 67 ≤ 77 ∧ 77 ≤ 76) by decide) rfl))
  have t_51 : (M41.2.1 77 1).toInt = (M.2.1 77 1).toInt := congrArg Int32.toInt c_50
  have c_52 : M41.2.1 0 12 = (M.2.1 0 12) := (F_n F39 (show ¬ (0 = 77 ∧ 12 = 2 ∨ 94 ≤ 0 ∧ 0 ≤ 98) by decide) (F_n F23 (show ¬ (11 ≤ 0 ∧ 0 ≤ 16 ∨ 18 ≤ 0 ∧ 0 ≤ 48 ∨ 67 ≤ 0 ∧ 0 ≤ 76) by decide) rfl))
  have t_53 : (M41.2.1 0 12).toInt = (M.2.1 0 12).toInt := congrArg Int32.toInt c_52
  have c_54 : M41.2.1 77 28 = (M.2.1 77 28) := (F_n F39 (show ¬ (77 = 77 ∧ 28 = 2 ∨ 94 ≤ 77 ∧ 77 ≤ 98) by decide) (F_n F23 (show ¬ (11 ≤ 77 ∧ 77 ≤ 16 ∨ 18 ≤ 77 ∧ 77 ≤ 48 ∨ 67 ≤ 77 ∧ 77 ≤ 76) by decide) rfl))
  have t_55 : (M41.2.1 77 28).toInt = (M.2.1 77 28).toInt := congrArg Int32.toInt c_54
  have c_56 : M41.2.1 17 4 = (M.2.1 17 4) := (F_n F39 (show ¬ (17 = 77 ∧ 4 = 2 ∨ 94 ≤ 17 ∧ 17 ≤ 98) by decide) (F_n F23 (show ¬ (11 ≤ 17 ∧ 17 ≤ 16 ∨ 18 ≤ 17 ∧ 17 ≤ 48 ∨ 67 ≤ 17 ∧ 17 ≤ 76) by decide) rfl))
  have t_57 : (M41.2.1 17 4).toInt = (M.2.1 17 4).toInt := congrArg Int32.toInt c_56
  have c_58 : M41.2.1 77 41 = (M.2.1 77 41) := (F_n F39 (show ¬ (77 = 77 ∧ 41 = 2 ∨ 94 ≤ 77 ∧ 77 ≤ 98) by decide) (F_n F23 (show ¬ (11 ≤ 77 ∧ 77 ≤ 16 ∨ 18 ≤ 77 ∧ 77 ≤ 48 ∨ 67 ≤ 77 ∧ 77 ≤ 76) by decide) rfl))
  have t_59 : (M41.2.1 77 41).toInt = (M.2.1 77 41).toInt := congrArg Int32.toInt c_58
  have c_60 : M41.2.1 6 0 = (M.2.1 6 0) := (F_n F39 (show ¬ (6 = 77 ∧ 0 = 2 ∨ 94 ≤ 6 ∧ 6 ≤ 98) by decide) (F_n F23 (show ¬ (11 ≤ 6 ∧ 6 ≤ 16 ∨ 18 ≤ 6 ∧ 6 ≤ 48 ∨ 67 ≤ 6 ∧ 6 ≤ 76) by decide) rfl))
  have t_61 : (M41.2.1 6 0).toInt = (M.2.1 6 0).toInt := congrArg Int32.toInt c_60
  have c_62 : M41.2.1 77 29 = (M.2.1 77 29) := (F_n F39 (show ¬ (77 = 77 ∧ 29 = 2 ∨ 94 ≤ 77 ∧ 77 ≤ 98) by decide) (F_n F23 (show ¬ (11 ≤ 77 ∧ 77 ≤ 16 ∨ 18 ≤ 77 ∧ 77 ≤ 48 ∨ 67 ≤ 77 ∧ 77 ≤ 76) by decide) rfl))
  have t_63 : (M41.2.1 77 29).toInt = (M.2.1 77 29).toInt := congrArg Int32.toInt c_62
  have j_64 := (PI_f (tg_439 F39) p_25)
  have j_65 := (NI_f (tg_440 F39) p_26)
  have j_66 := (QI_f (tg_441 F39) p_27)
  have j_67 := (PQE_r F39.2.1 (PQE_r F23.2.1 jPQE))
  have j_68 := (FA_f (tg_442 F39) (FA_f (tg_443 F23) jFA))
  have j_69 := (WC_f (tg_444 F39) (WC_f (tg_445 F23) jWC))
  have j_70 := (NJ_f (tg_446 F39) j_37)
  have j_71 := (PS_f (tg_447 F39) (PS_f (tg_448 F23) jPS))
  have j_72 := (KQ_f (tg_449 F39) (KQ_f (tg_450 F23) jKQ))
  have j_73 := (TP_f (tg_451 F39) (TP_f (tg_452 F23) jTP))
  have j_74 := (W9_f (tg_453 F39) (W9_f (tg_454 F23) jW9))
  have j_75 := (AN_F F39 tg_501 (AN_F F23 tg_502 jAN))
  have j_76 := (NE_r F39.2.1 (NE_r F23.2.1 jNE))
  have j_77 := (W8_f (tg_455 F39) (W8_f (tg_456 F23) jW8))
  exact h M41 (u5) (u6) ⟨⟨⟨⟨⟨⟨⟨⟨hG40, ⟨j_64, j_65, j_66, j_67⟩, ⟨j_68, j_69, j_70, j_71, j_72⟩, by omega, by omega⟩, j_73, j_74⟩, j_76, by omega⟩, AN_a j_75⟩, by omega⟩, j_77⟩, by omega⟩, j_75⟩ (by omega) (by omega)
set_option maxRecDepth 4000 in
set_option maxHeartbeats 0 in
theorem LW_17 {X : mm_X} {d L : Nat} {M : mm_M} {Q : Option Value → mm_M → Prop} {i : Int32} {u5 u6 : Value} (hX : g_X X) (hW : g_W X) (hW2 : g_W2 X) (hL : (X 0).1 = L) (h3 : L ≤ 3072) (hd : 40 ≤ d) (hi : 0 ≤ i.toInt) (hi2 : i.toInt + 6 ≤ (L : Int)) (H : LI9 M) (h : ∀ (M1 : mm_M) (v5 v6 : Value), LI9 M1 → M1.1.2.1 ≤ M.1.2.1 + 1 → M1.1.2.2.1 ≤ M.1.2.2.1 + 6 → mm_T X d 0 1313 [.ref mm_ext, .ref 0, .ref 77, .ref 125, .int i, v5, v6] [] M1 Q) : mm_T X d 0 812 [.ref mm_ext, .ref 0, .ref 77, .ref 125, .int i, u5, u6] [] M Q := by
  obtain ⟨⟨⟨⟨⟨⟨⟨⟨hG, ⟨jPI, jNI, jQI, jPQE⟩, ⟨jFA, jWC, jNJ, jPS, jKQ⟩, jJ, jE⟩, jTP, jW9⟩, jNE, jCC⟩, -⟩, jOV⟩, jW8⟩, jNN⟩, jAN⟩ := H
  have b_1 := g_b hG (a := 77) (i := 7) (lo := 0) (hi := 500) rfl rfl
  have b_2 := g_b hG (a := 77) (i := 6) (lo := 0) (hi := 500) rfl rfl
  have b_3 := g_b hG (a := 1) (i := 1) (lo := 0) (hi := 500) rfl rfl
  have b_4 := g_b hG (a := 77) (i := 1) (lo := 0) (hi := 500) rfl rfl
  have b_5 := g_b hG (a := 0) (i := 12) (lo := 0) (hi := 30) rfl rfl
  have b_6 := g_b hG (a := 77) (i := 28) (lo := 0) (hi := 30) rfl rfl
  have b_7 := g_b hG (a := 6) (i := 0) (lo := 0) (hi := 150) rfl rfl
  have b_8 := g_b hG (a := 77) (i := 29) (lo := 0) (hi := 150) rfl rfl
  refine to_an (pc := 812) rw_0_812 rfl (to_an (pc := 813) rw_0_813 rfl (to_i (pc := 814) rw_0_814 rfl (to_c (pc := 816) rw_0_816 (x := (1 : Int32)) rfl rfl (s_add (pc := 817) rw_0_817 (A := i.toInt) (B := 1) rfl rfl (by omega) (fun v9 e10 => s_x0 (pc := 818) rw_0_818 hL (A := v9.toInt) rfl (by omega) (by omega) (fun v11 e12 => s_v (pc := 819) rw_0_819 (dp0 hd (by decide)) (ls0 := [.ref 0, .int v11]) rfl (Nat.le_of_ble_eq_true rfl) (Nat.le_of_ble_eq_true rfl) rfl (to_rc rfl rfl rfl (g_o hG rfl)) rfl ?_))))))
  obtain ⟨pz13, pzz13, qz13, qzz13, hpz13, hpzz13, hqz13, hqzz13, hpqz13⟩ := id jPQE
  refine E_126 hX (dp1 hd (by decide)) hG hpz13 hpzz13 hqz13 hqzz13 hpqz13 jPI jNI jQI (c := v11) (p := pz13) (pz := pzz13) (q := qz13) (qz := qzz13) (fun r14 M26 hG16 F15 p_17 p_18 p_19 p_20 p_21 p_22 p_23 p_24 p_25 => ?_)
  have n_27 : M26.1.2.1 = M.1.2.1 ∧ M26.1.2.2.1 = M.1.2.2.1 := by rw [F15.1]; exact ⟨rfl, rfl⟩
  refine to_popi (pc := 822) rw_0_822 (to_an (pc := 823) rw_0_823 rfl (to_an (pc := 824) rw_0_824 rfl (to_i (pc := 825) rw_0_825 rfl (to_c (pc := 827) rw_0_827 (x := (1 : Int32)) rfl rfl (s_addk (pc := 828) rw_0_828 (A := i.toInt) (B := 1) rfl rfl (by omega) (v := v9) e10 (s_x0k (pc := 829) rw_0_829 hL (A := v9.toInt) rfl (by omega) (by omega) (v := v11) e12 (s_v (pc := 830) rw_0_830 (dp0 hd (by decide)) (ls0 := [.ref 77, .int v11]) rfl (Nat.le_of_ble_eq_true rfl) (Nat.le_of_ble_eq_true rfl) rfl (to_rc rfl rfl rfl (g_o hG16 rfl)) rfl ?_)))))))
  have c_31 : M26.2.1 77 28 = (M.2.1 77 28) := (F_n F15 (show ¬ (77 = 17) by decide) rfl)
  have t_32 : (M26.2.1 77 28).toInt = (M.2.1 77 28).toInt := congrArg Int32.toInt c_31
  have c_33 : M26.2.1 77 41 = (M.2.1 77 41) := (F_n F15 (show ¬ (77 = 17) by decide) rfl)
  have t_34 : (M26.2.1 77 41).toInt = (M.2.1 77 41).toInt := congrArg Int32.toInt c_33
  refine E_203 hX (dp1 hd (by decide)) hG16 (c := v11) (fun r35 M44 hG37 F36 p_38 p_39 p_40 p_41 p_42 p_43 => ?_)
  have n_45 : M44.1.2.1 = M26.1.2.1 ∧ M44.1.2.2.1 = M26.1.2.2.1 := by rw [F36.1]; exact ⟨rfl, rfl⟩
  have c_47 : M44.2.1 17 4 = (M26.2.1 17 4) := (F_n F36 (show ¬ (17 = 77 ∧ (4 = 2 ∨ 4 = 41)) by decide) rfl)
  have t_48 : (M44.2.1 17 4).toInt = (M26.2.1 17 4).toInt := congrArg Int32.toInt c_47
  have c_49 : M44.2.1 6 0 = (M.2.1 6 0) := (F_n F36 (show ¬ (6 = 77 ∧ (0 = 2 ∨ 0 = 41)) by decide) (F_n F15 (show ¬ (6 = 17) by decide) rfl))
  have t_50 : (M44.2.1 6 0).toInt = (M.2.1 6 0).toInt := congrArg Int32.toInt c_49
  have c_51 : M44.2.1 77 29 = (M.2.1 77 29) := (F_n F36 (show ¬ (77 = 77 ∧ (29 = 2 ∨ 29 = 41)) by decide) (F_n F15 (show ¬ (77 = 17) by decide) rfl))
  have t_52 : (M44.2.1 77 29).toInt = (M.2.1 77 29).toInt := congrArg Int32.toInt c_51
  have z_53 : (M44.2.1 17 4).toInt = (M44.2.1 77 41).toInt := by
    by_cases g9 : 0 ≤ v11.toInt ∧ v11.toInt < (M.2.1 0 12).toInt
    · exact TV_e (M := M) (M1 := M26) (by omega) (p_25 (by omega)) (F_n F36 (show ¬ (17 = 77 ∧ (4 = 2 ∨ 4 = 41)) by decide) rfl) (F_n F15 (show ¬ (77 = 17) by decide) rfl) (p_43 (by omega))
    · omega
  refine to_popi (pc := 833) rw_0_833 (to_go (pc := 834) rw_0_834 ?_)
  have c_54 : M44.2.1 77 7 = (M.2.1 77 7) := (F_n F36 (show ¬ (77 = 77 ∧ (7 = 2 ∨ 7 = 41)) by decide) (F_n F15 (show ¬ (77 = 17) by decide) rfl))
  have t_55 : (M44.2.1 77 7).toInt = (M.2.1 77 7).toInt := congrArg Int32.toInt c_54
  have c_56 : M44.2.1 77 6 = (M.2.1 77 6) := (F_n F36 (show ¬ (77 = 77 ∧ (6 = 2 ∨ 6 = 41)) by decide) (F_n F15 (show ¬ (77 = 17) by decide) rfl))
  have t_57 : (M44.2.1 77 6).toInt = (M.2.1 77 6).toInt := congrArg Int32.toInt c_56
  have c_58 : M44.2.1 1 1 = (M.2.1 1 1) := (F_n F36 (show ¬ (1 = 77 ∧ (1 = 2 ∨ 1 = 41)) by decide) (F_n F15 (show ¬ (1 = 17) by decide) rfl))
  have t_59 : (M44.2.1 1 1).toInt = (M.2.1 1 1).toInt := congrArg Int32.toInt c_58
  have c_60 : M44.2.1 77 1 = (M.2.1 77 1) := (F_n F36 (show ¬ (77 = 77 ∧ (1 = 2 ∨ 1 = 41)) by decide) (F_n F15 (show ¬ (77 = 17) by decide) rfl))
  have t_61 : (M44.2.1 77 1).toInt = (M.2.1 77 1).toInt := congrArg Int32.toInt c_60
  have c_62 : M44.2.1 0 12 = (M.2.1 0 12) := (F_n F36 (show ¬ (0 = 77 ∧ (12 = 2 ∨ 12 = 41)) by decide) (F_n F15 (show ¬ (0 = 17) by decide) rfl))
  have t_63 : (M44.2.1 0 12).toInt = (M.2.1 0 12).toInt := congrArg Int32.toInt c_62
  have c_64 : M44.2.1 77 28 = (M.2.1 77 28) := (F_n F36 (show ¬ (77 = 77 ∧ (28 = 2 ∨ 28 = 41)) by decide) c_31)
  have t_65 : (M44.2.1 77 28).toInt = (M.2.1 77 28).toInt := congrArg Int32.toInt c_64
  have j_66 := (PI_f (tg_504 F36) p_21)
  have j_67 := (NI_f (tg_505 F36) p_22)
  have j_68 := (QI_f (tg_506 F36) p_23)
  have j_69 := (PQE_r F36.2.1 (PQE_r F15.2.1 jPQE))
  have j_70 := (FA_f (tg_507 F36) (FA_f (tg_508 F15) jFA))
  have j_71 := (WC_f (tg_509 F36) (WC_f (tg_510 F15) jWC))
  have j_72 := (NJ_f (tg_511 F36) (NJ_f (tg_512 F15) jNJ))
  have j_73 := (PS_f (tg_513 F36) (PS_f (tg_514 F15) jPS))
  have j_74 := (KQ_f (tg_515 F36) (KQ_f (tg_516 F15) jKQ))
  have j_75 := (TP_f (tg_517 F36) (TP_f (tg_518 F15) jTP))
  have j_76 := (W9_f (tg_519 F36) (W9_f (tg_520 F15) jW9))
  have j_77 := (AN_F F36 tg_606 (AN_F F15 tg_607 jAN))
  have j_78 := (NE_r F36.2.1 (NE_r F15.2.1 jNE))
  have j_79 := (W8_f (tg_521 F36) (W8_f (tg_522 F15) jW8))
  exact h M44 (u5) (u6) ⟨⟨⟨⟨⟨⟨⟨⟨hG37, ⟨j_66, j_67, j_68, j_69⟩, ⟨j_70, j_71, j_72, j_73, j_74⟩, by omega, by omega⟩, j_75, j_76⟩, j_78, by omega⟩, AN_a j_77⟩, by omega⟩, j_79⟩, by omega⟩, j_77⟩ (by omega) (by omega)
set_option maxRecDepth 4000 in
set_option maxHeartbeats 0 in
theorem LW_18 {X : mm_X} {d L : Nat} {M : mm_M} {Q : Option Value → mm_M → Prop} {i : Int32} {u5 u6 : Value} (hX : g_X X) (hW : g_W X) (hW2 : g_W2 X) (hL : (X 0).1 = L) (h3 : L ≤ 3072) (hd : 40 ≤ d) (hi : 0 ≤ i.toInt) (hi2 : i.toInt + 6 ≤ (L : Int)) (H : LI9 M) (h : ∀ (M1 : mm_M) (v5 v6 : Value), LI9 M1 → M1.1.2.1 ≤ M.1.2.1 + 1 → M1.1.2.2.1 ≤ M.1.2.2.1 + 6 → mm_T X d 0 1313 [.ref mm_ext, .ref 0, .ref 77, .ref 125, .int i, v5, v6] [] M1 Q) : mm_T X d 0 837 [.ref mm_ext, .ref 0, .ref 77, .ref 125, .int i, u5, u6] [] M Q := by
  obtain ⟨⟨⟨⟨⟨⟨⟨⟨hG, ⟨jPI, jNI, jQI, jPQE⟩, ⟨jFA, jWC, jNJ, jPS, jKQ⟩, jJ, jE⟩, jTP, jW9⟩, jNE, jCC⟩, -⟩, jOV⟩, jW8⟩, jNN⟩, jAN⟩ := H
  have b_1 := g_b hG (a := 77) (i := 7) (lo := 0) (hi := 500) rfl rfl
  have b_2 := g_b hG (a := 77) (i := 6) (lo := 0) (hi := 500) rfl rfl
  have b_3 := g_b hG (a := 1) (i := 1) (lo := 0) (hi := 500) rfl rfl
  have b_4 := g_b hG (a := 77) (i := 1) (lo := 0) (hi := 500) rfl rfl
  have b_5 := g_b hG (a := 0) (i := 12) (lo := 0) (hi := 30) rfl rfl
  have b_6 := g_b hG (a := 77) (i := 28) (lo := 0) (hi := 30) rfl rfl
  have b_7 := g_b hG (a := 6) (i := 0) (lo := 0) (hi := 150) rfl rfl
  have b_8 := g_b hG (a := 77) (i := 29) (lo := 0) (hi := 150) rfl rfl
  refine to_an (pc := 837) rw_0_837 rfl (s_v (pc := 838) rw_0_838 (dp0 hd (by decide)) (ls0 := [.ref 0]) rfl (Nat.le_of_ble_eq_true rfl) (Nat.le_of_ble_eq_true rfl) rfl (to_rc rfl rfl rfl (g_o hG rfl)) rfl ?_)
  obtain ⟨pz9, pzz9, qz9, qzz9, hpz9, hpzz9, hqz9, hqzz9, hpqz9⟩ := id jPQE
  refine C_127 hX (dp1 hd (by decide)) hG hpz9 hpzz9 hqz9 hqzz9 hpqz9 (p := pz9) (pz := pzz9) (q := qz9) (qz := qzz9) (fun r10 M14 hG12 F11 p_13 => ?_)
  have n_15 : M14.1.2.1 = M.1.2.1 ∧ M14.1.2.2.1 = M.1.2.2.1 := by rw [F11.1]; exact ⟨rfl, rfl⟩
  refine to_popi (pc := 841) rw_0_841 (to_an (pc := 842) rw_0_842 rfl (s_v (pc := 843) rw_0_843 (dp0 hd (by decide)) (ls0 := [.ref 77]) rfl (Nat.le_of_ble_eq_true rfl) (Nat.le_of_ble_eq_true rfl) rfl (to_rc rfl rfl rfl (g_o hG12 rfl)) rfl ?_))
  have c_17 : M14.2.1 77 41 = (M.2.1 77 41) := (F_n F11 (show ¬ (77 < 0) by decide) rfl)
  have t_18 : (M14.2.1 77 41).toInt = (M.2.1 77 41).toInt := congrArg Int32.toInt c_17
  refine C_204 hX (dp1 hd (by decide)) hG12  (fun r19 M23 hG21 F20 p_22 => ?_)
  have n_24 : M23.1.2.1 = M14.1.2.1 ∧ M23.1.2.2.1 = M14.1.2.2.1 := by rw [F20.1]; exact ⟨rfl, rfl⟩
  refine to_popi (pc := 846) rw_0_846 (to_go (pc := 847) rw_0_847 ?_)
  have c_26 : M23.2.1 77 7 = (M.2.1 77 7) := (F_n F20 (show ¬ (77 = 77 ∧ 7 = 2) by decide) (F_n F11 (show ¬ (77 < 0) by decide) rfl))
  have t_27 : (M23.2.1 77 7).toInt = (M.2.1 77 7).toInt := congrArg Int32.toInt c_26
  have c_28 : M23.2.1 77 6 = (M.2.1 77 6) := (F_n F20 (show ¬ (77 = 77 ∧ 6 = 2) by decide) (F_n F11 (show ¬ (77 < 0) by decide) rfl))
  have t_29 : (M23.2.1 77 6).toInt = (M.2.1 77 6).toInt := congrArg Int32.toInt c_28
  have c_30 : M23.2.1 1 1 = (M.2.1 1 1) := (F_n F20 (show ¬ (1 = 77 ∧ 1 = 2) by decide) (F_n F11 (show ¬ (1 < 0) by decide) rfl))
  have t_31 : (M23.2.1 1 1).toInt = (M.2.1 1 1).toInt := congrArg Int32.toInt c_30
  have c_32 : M23.2.1 77 1 = (M.2.1 77 1) := (F_n F20 (show ¬ (77 = 77 ∧ 1 = 2) by decide) (F_n F11 (show ¬ (77 < 0) by decide) rfl))
  have t_33 : (M23.2.1 77 1).toInt = (M.2.1 77 1).toInt := congrArg Int32.toInt c_32
  have c_34 : M23.2.1 0 12 = (M.2.1 0 12) := (F_n F20 (show ¬ (0 = 77 ∧ 12 = 2) by decide) (F_n F11 (show ¬ (0 < 0) by decide) rfl))
  have t_35 : (M23.2.1 0 12).toInt = (M.2.1 0 12).toInt := congrArg Int32.toInt c_34
  have c_36 : M23.2.1 77 28 = (M.2.1 77 28) := (F_n F20 (show ¬ (77 = 77 ∧ 28 = 2) by decide) (F_n F11 (show ¬ (77 < 0) by decide) rfl))
  have t_37 : (M23.2.1 77 28).toInt = (M.2.1 77 28).toInt := congrArg Int32.toInt c_36
  have c_38 : M23.2.1 17 4 = (M.2.1 17 4) := (F_n F20 (show ¬ (17 = 77 ∧ 4 = 2) by decide) (F_n F11 (show ¬ (17 < 0) by decide) rfl))
  have t_39 : (M23.2.1 17 4).toInt = (M.2.1 17 4).toInt := congrArg Int32.toInt c_38
  have c_40 : M23.2.1 77 41 = (M.2.1 77 41) := (F_n F20 (show ¬ (77 = 77 ∧ 41 = 2) by decide) c_17)
  have t_41 : (M23.2.1 77 41).toInt = (M.2.1 77 41).toInt := congrArg Int32.toInt c_40
  have c_42 : M23.2.1 6 0 = (M.2.1 6 0) := (F_n F20 (show ¬ (6 = 77 ∧ 0 = 2) by decide) (F_n F11 (show ¬ (6 < 0) by decide) rfl))
  have t_43 : (M23.2.1 6 0).toInt = (M.2.1 6 0).toInt := congrArg Int32.toInt c_42
  have c_44 : M23.2.1 77 29 = (M.2.1 77 29) := (F_n F20 (show ¬ (77 = 77 ∧ 29 = 2) by decide) (F_n F11 (show ¬ (77 < 0) by decide) rfl))
  have t_45 : (M23.2.1 77 29).toInt = (M.2.1 77 29).toInt := congrArg Int32.toInt c_44
  have j_46 := (PI_f (tg_423 F20) (PI_f (tg_99 F11) jPI))
  have j_47 := (NI_f (tg_424 F20) (NI_f (tg_98 F11) jNI))
  have j_48 := (QI_f (tg_425 F20) (QI_f (tg_100 F11) jQI))
  have j_49 := (PQE_r F20.2.1 (PQE_r F11.2.1 jPQE))
  have j_50 := (FA_f (tg_426 F20) (FA_f (tg_218 F11) jFA))
  have j_51 := (WC_f (tg_427 F20) (WC_f (tg_428 F11) jWC))
  have j_52 := (NJ_f (tg_429 F20) (NJ_f (tg_102 F11) jNJ))
  have j_53 := (PS_f (tg_430 F20) (PS_f (tg_431 F11) jPS))
  have j_54 := (KQ_f (tg_432 F20) (KQ_f (tg_343 F11) jKQ))
  have j_55 := (TP_f (tg_433 F20) (TP_f (tg_434 F11) jTP))
  have j_56 := (W9_f (tg_435 F20) (W9_f (tg_46 F11) jW9))
  have j_57 := (AN_F F20 tg_499 (AN_F F11 tg_500 jAN))
  have j_58 := (NE_r F20.2.1 (NE_r F11.2.1 jNE))
  have j_59 := (W8_f (tg_436 F20) (W8_f (tg_437 F11) jW8))
  exact h M23 (u5) (u6) ⟨⟨⟨⟨⟨⟨⟨⟨hG21, ⟨j_46, j_47, j_48, j_49⟩, ⟨j_50, j_51, j_52, j_53, j_54⟩, by omega, by omega⟩, j_55, j_56⟩, j_58, by omega⟩, AN_a j_57⟩, by omega⟩, j_59⟩, by omega⟩, j_57⟩ (by omega) (by omega)
set_option maxRecDepth 4000 in
set_option maxHeartbeats 0 in
theorem LW_19 {X : mm_X} {d L : Nat} {M : mm_M} {Q : Option Value → mm_M → Prop} {i : Int32} {u5 u6 : Value} (hX : g_X X) (hW : g_W X) (hW2 : g_W2 X) (hL : (X 0).1 = L) (h3 : L ≤ 3072) (hd : 40 ≤ d) (hi : 0 ≤ i.toInt) (hi2 : i.toInt + 6 ≤ (L : Int)) (H : LI9 M) (h : ∀ (M1 : mm_M) (v5 v6 : Value), LI9 M1 → M1.1.2.1 ≤ M.1.2.1 + 1 → M1.1.2.2.1 ≤ M.1.2.2.1 + 6 → mm_T X d 0 1313 [.ref mm_ext, .ref 0, .ref 77, .ref 125, .int i, v5, v6] [] M1 Q) : mm_T X d 0 850 [.ref mm_ext, .ref 0, .ref 77, .ref 125, .int i, u5, u6] [] M Q := by
  obtain ⟨⟨⟨⟨⟨⟨⟨⟨hG, ⟨jPI, jNI, jQI, jPQE⟩, ⟨jFA, jWC, jNJ, jPS, jKQ⟩, jJ, jE⟩, jTP, jW9⟩, jNE, jCC⟩, -⟩, jOV⟩, jW8⟩, jNN⟩, jAN⟩ := H
  have b_1 := g_b hG (a := 77) (i := 7) (lo := 0) (hi := 500) rfl rfl
  have b_2 := g_b hG (a := 77) (i := 6) (lo := 0) (hi := 500) rfl rfl
  have b_3 := g_b hG (a := 1) (i := 1) (lo := 0) (hi := 500) rfl rfl
  have b_4 := g_b hG (a := 77) (i := 1) (lo := 0) (hi := 500) rfl rfl
  have b_5 := g_b hG (a := 0) (i := 12) (lo := 0) (hi := 30) rfl rfl
  have b_6 := g_b hG (a := 77) (i := 28) (lo := 0) (hi := 30) rfl rfl
  have b_7 := g_b hG (a := 6) (i := 0) (lo := 0) (hi := 150) rfl rfl
  have b_8 := g_b hG (a := 77) (i := 29) (lo := 0) (hi := 150) rfl rfl
  refine to_an (pc := 850) rw_0_850 rfl (to_an (pc := 851) rw_0_851 rfl (to_i (pc := 852) rw_0_852 rfl (to_c (pc := 854) rw_0_854 (x := (1 : Int32)) rfl rfl (s_add (pc := 855) rw_0_855 (A := i.toInt) (B := 1) rfl rfl (by omega) (fun v9 e10 => s_x0 (pc := 856) rw_0_856 hL (A := v9.toInt) rfl (by omega) (by omega) (fun v11 e12 => to_an (pc := 857) rw_0_857 rfl (to_i (pc := 858) rw_0_858 rfl (to_c (pc := 860) rw_0_860 (x := (2 : Int32)) rfl rfl (s_add (pc := 861) rw_0_861 (A := i.toInt) (B := 2) rfl rfl (by omega) (fun v13 e14 => s_x0 (pc := 862) rw_0_862 hL (A := v13.toInt) rfl (by omega) (by omega) (fun v15 e16 => s_v (pc := 863) rw_0_863 (dp0 hd (by decide)) (ls0 := [.ref 0, .int v11, .int v15]) rfl (Nat.le_of_ble_eq_true rfl) (Nat.le_of_ble_eq_true rfl) rfl (to_rc rfl rfl rfl (g_o hG rfl)) rfl ?_)))))))))))
  obtain ⟨pz17, pzz17, qz17, qzz17, hpz17, hpzz17, hqz17, hqzz17, hpqz17⟩ := id jPQE
  refine C_128 hX (dp1 hd (by decide)) hG hpz17 hpzz17 hqz17 hqzz17 hpqz17 (k := v11) (j := v15) (p := pz17) (pz := pzz17) (q := qz17) (qz := qzz17) (fun r18 M21 hG20 F19 => ?_)
  have n_22 : M21.1.2.1 = M.1.2.1 ∧ M21.1.2.2.1 = M.1.2.2.1 := by rw [F19.1]; exact ⟨rfl, rfl⟩
  refine to_popi (pc := 866) rw_0_866 (to_an (pc := 867) rw_0_867 rfl (to_an (pc := 868) rw_0_868 rfl (to_i (pc := 869) rw_0_869 rfl (to_c (pc := 871) rw_0_871 (x := (1 : Int32)) rfl rfl (s_addk (pc := 872) rw_0_872 (A := i.toInt) (B := 1) rfl rfl (by omega) (v := v9) e10 (s_x0k (pc := 873) rw_0_873 hL (A := v9.toInt) rfl (by omega) (by omega) (v := v11) e12 (to_an (pc := 874) rw_0_874 rfl (to_i (pc := 875) rw_0_875 rfl (to_c (pc := 877) rw_0_877 (x := (2 : Int32)) rfl rfl (s_addk (pc := 878) rw_0_878 (A := i.toInt) (B := 2) rfl rfl (by omega) (v := v13) e14 (s_x0k (pc := 879) rw_0_879 hL (A := v13.toInt) rfl (by omega) (by omega) (v := v15) e16 ?_)))))))))))
  refine s_v (pc := 880) rw_0_880 (dp0 hd (by decide)) (ls0 := [.ref 77, .int v11, .int v15]) rfl (Nat.le_of_ble_eq_true rfl) (Nat.le_of_ble_eq_true rfl) rfl (to_rc rfl rfl rfl (g_o hG20 rfl)) rfl (C_206 hX (dp1 hd (by decide)) hG20 (p := v11) (k := v15) (fun r28 M31 hG30 F29 => ?_))
  have n_32 : M31.1.2.1 = M21.1.2.1 ∧ M31.1.2.2.1 = M21.1.2.2.1 := by rw [F29.1]; exact ⟨rfl, rfl⟩
  refine to_popi (pc := 883) rw_0_883 (to_go (pc := 884) rw_0_884 ?_)
  have c_34 : M31.2.1 77 7 = (M.2.1 77 7) := (F_n F29 (show ¬ (77 = 77 ∧ 7 = 2) by decide) (F_n F19 (show ¬ (77 < 0) by decide) rfl))
  have t_35 : (M31.2.1 77 7).toInt = (M.2.1 77 7).toInt := congrArg Int32.toInt c_34
  have c_36 : M31.2.1 77 6 = (M.2.1 77 6) := (F_n F29 (show ¬ (77 = 77 ∧ 6 = 2) by decide) (F_n F19 (show ¬ (77 < 0) by decide) rfl))
  have t_37 : (M31.2.1 77 6).toInt = (M.2.1 77 6).toInt := congrArg Int32.toInt c_36
  have c_38 : M31.2.1 1 1 = (M.2.1 1 1) := (F_n F29 (show ¬ (1 = 77 ∧ 1 = 2) by decide) (F_n F19 (show ¬ (1 < 0) by decide) rfl))
  have t_39 : (M31.2.1 1 1).toInt = (M.2.1 1 1).toInt := congrArg Int32.toInt c_38
  have c_40 : M31.2.1 77 1 = (M.2.1 77 1) := (F_n F29 (show ¬ (77 = 77 ∧ 1 = 2) by decide) (F_n F19 (show ¬ (77 < 0) by decide) rfl))
  have t_41 : (M31.2.1 77 1).toInt = (M.2.1 77 1).toInt := congrArg Int32.toInt c_40
  have c_42 : M31.2.1 0 12 = (M.2.1 0 12) := (F_n F29 (show ¬ (0 = 77 ∧ 12 = 2) by decide) (F_n F19 (show ¬ (0 < 0) by decide) rfl))
  have t_43 : (M31.2.1 0 12).toInt = (M.2.1 0 12).toInt := congrArg Int32.toInt c_42
  have c_44 : M31.2.1 77 28 = (M.2.1 77 28) := (F_n F29 (show ¬ (77 = 77 ∧ 28 = 2) by decide) (F_n F19 (show ¬ (77 < 0) by decide) rfl))
  have t_45 : (M31.2.1 77 28).toInt = (M.2.1 77 28).toInt := congrArg Int32.toInt c_44
  have c_46 : M31.2.1 17 4 = (M.2.1 17 4) := (F_n F29 (show ¬ (17 = 77 ∧ 4 = 2) by decide) (F_n F19 (show ¬ (17 < 0) by decide) rfl))
  have t_47 : (M31.2.1 17 4).toInt = (M.2.1 17 4).toInt := congrArg Int32.toInt c_46
  have c_48 : M31.2.1 77 41 = (M.2.1 77 41) := (F_n F29 (show ¬ (77 = 77 ∧ 41 = 2) by decide) (F_n F19 (show ¬ (77 < 0) by decide) rfl))
  have t_49 : (M31.2.1 77 41).toInt = (M.2.1 77 41).toInt := congrArg Int32.toInt c_48
  have c_50 : M31.2.1 6 0 = (M.2.1 6 0) := (F_n F29 (show ¬ (6 = 77 ∧ 0 = 2) by decide) (F_n F19 (show ¬ (6 < 0) by decide) rfl))
  have t_51 : (M31.2.1 6 0).toInt = (M.2.1 6 0).toInt := congrArg Int32.toInt c_50
  have c_52 : M31.2.1 77 29 = (M.2.1 77 29) := (F_n F29 (show ¬ (77 = 77 ∧ 29 = 2) by decide) (F_n F19 (show ¬ (77 < 0) by decide) rfl))
  have t_53 : (M31.2.1 77 29).toInt = (M.2.1 77 29).toInt := congrArg Int32.toInt c_52
  have j_54 := (PI_f (tg_423 F29) (PI_f (tg_99 F19) jPI))
  have j_55 := (NI_f (tg_424 F29) (NI_f (tg_98 F19) jNI))
  have j_56 := (QI_f (tg_425 F29) (QI_f (tg_100 F19) jQI))
  have j_57 := (PQE_r F29.2.1 (PQE_r F19.2.1 jPQE))
  have j_58 := (FA_f (tg_426 F29) (FA_f (tg_218 F19) jFA))
  have j_59 := (WC_f (tg_427 F29) (WC_f (tg_428 F19) jWC))
  have j_60 := (NJ_f (tg_429 F29) (NJ_f (tg_102 F19) jNJ))
  have j_61 := (PS_f (tg_430 F29) (PS_f (tg_431 F19) jPS))
  have j_62 := (KQ_f (tg_432 F29) (KQ_f (tg_343 F19) jKQ))
  have j_63 := (TP_f (tg_433 F29) (TP_f (tg_434 F19) jTP))
  have j_64 := (W9_f (tg_435 F29) (W9_f (tg_46 F19) jW9))
  have j_65 := (AN_F F29 tg_499 (AN_F F19 tg_500 jAN))
  have j_66 := (NE_r F29.2.1 (NE_r F19.2.1 jNE))
  have j_67 := (W8_f (tg_436 F29) (W8_f (tg_437 F19) jW8))
  exact h M31 (u5) (u6) ⟨⟨⟨⟨⟨⟨⟨⟨hG30, ⟨j_54, j_55, j_56, j_57⟩, ⟨j_58, j_59, j_60, j_61, j_62⟩, by omega, by omega⟩, j_63, j_64⟩, j_66, by omega⟩, AN_a j_65⟩, by omega⟩, j_67⟩, by omega⟩, j_65⟩ (by omega) (by omega)
set_option maxRecDepth 4000 in
set_option maxHeartbeats 0 in
theorem LW_20 {X : mm_X} {d L : Nat} {M : mm_M} {Q : Option Value → mm_M → Prop} {i : Int32} {u5 u6 : Value} (hX : g_X X) (hW : g_W X) (hW2 : g_W2 X) (hL : (X 0).1 = L) (h3 : L ≤ 3072) (hd : 40 ≤ d) (hi : 0 ≤ i.toInt) (hi2 : i.toInt + 6 ≤ (L : Int)) (H : LI9 M) (h : ∀ (M1 : mm_M) (v5 v6 : Value), LI9 M1 → M1.1.2.1 ≤ M.1.2.1 + 1 → M1.1.2.2.1 ≤ M.1.2.2.1 + 6 → mm_T X d 0 1313 [.ref mm_ext, .ref 0, .ref 77, .ref 125, .int i, v5, v6] [] M1 Q) : mm_T X d 0 887 [.ref mm_ext, .ref 0, .ref 77, .ref 125, .int i, u5, u6] [] M Q := by
  obtain ⟨⟨⟨⟨⟨⟨⟨⟨hG, ⟨jPI, jNI, jQI, jPQE⟩, ⟨jFA, jWC, jNJ, jPS, jKQ⟩, jJ, jE⟩, jTP, jW9⟩, jNE, jCC⟩, -⟩, jOV⟩, jW8⟩, jNN⟩, jAN⟩ := H
  have b_1 := g_b hG (a := 77) (i := 7) (lo := 0) (hi := 500) rfl rfl
  have b_2 := g_b hG (a := 77) (i := 6) (lo := 0) (hi := 500) rfl rfl
  have b_3 := g_b hG (a := 1) (i := 1) (lo := 0) (hi := 500) rfl rfl
  have b_4 := g_b hG (a := 77) (i := 1) (lo := 0) (hi := 500) rfl rfl
  have b_5 := g_b hG (a := 0) (i := 12) (lo := 0) (hi := 30) rfl rfl
  have b_6 := g_b hG (a := 77) (i := 28) (lo := 0) (hi := 30) rfl rfl
  have b_7 := g_b hG (a := 6) (i := 0) (lo := 0) (hi := 150) rfl rfl
  have b_8 := g_b hG (a := 77) (i := 29) (lo := 0) (hi := 150) rfl rfl
  refine to_an (pc := 887) rw_0_887 rfl (to_an (pc := 888) rw_0_888 rfl (to_i (pc := 889) rw_0_889 rfl (to_c (pc := 891) rw_0_891 (x := (1 : Int32)) rfl rfl (s_add (pc := 892) rw_0_892 (A := i.toInt) (B := 1) rfl rfl (by omega) (fun v9 e10 => s_x0 (pc := 893) rw_0_893 hL (A := v9.toInt) rfl (by omega) (by omega) (fun v11 e12 => to_an (pc := 894) rw_0_894 rfl (to_i (pc := 895) rw_0_895 rfl (to_c (pc := 897) rw_0_897 (x := (2 : Int32)) rfl rfl (s_add (pc := 898) rw_0_898 (A := i.toInt) (B := 2) rfl rfl (by omega) (fun v13 e14 => s_x0 (pc := 899) rw_0_899 hL (A := v13.toInt) rfl (by omega) (by omega) (fun v15 e16 => s_i2l (pc := 900) rw_0_900 (fun l17 e18 => ?_))))))))))))
  refine to_c (pc := 901) rw_0_901 (x := (32 : Int32)) rfl rfl (s_anyS (pc := 903) rw_0_903 (fun _ _ => rfl) (fun l19 => to_an (pc := 904) rw_0_904 rfl (to_i (pc := 905) rw_0_905 rfl (to_c (pc := 907) rw_0_907 (x := (3 : Int32)) rfl rfl (s_add (pc := 908) rw_0_908 (A := i.toInt) (B := 3) rfl rfl (by omega) (fun v20 e21 => s_x0 (pc := 909) rw_0_909 hL (A := v20.toInt) rfl (by omega) (by omega) (fun v22 e23 => s_i2l (pc := 910) rw_0_910 (fun l24 e25 => s_cl (pc := 911) rw_0_911 rfl (fun l26 => s_anyL (pc := 914) rw_0_914 (fun _ _ => rfl) (fun l27 => s_anyL (pc := 915) rw_0_915 (fun _ _ => rfl) (fun l28 => s_v (pc := 916) rw_0_916 (dp0 hd (by decide)) (ls0 := [.ref 0, .int v11, .long l28, .null]) rfl (Nat.le_of_ble_eq_true rfl) (Nat.le_of_ble_eq_true rfl) rfl (to_rc rfl rfl rfl (g_o hG rfl)) rfl ?_)))))))))))
  obtain ⟨pz29, pzz29, qz29, qzz29, hpz29, hpzz29, hqz29, hqzz29, hpqz29⟩ := id jPQE
  refine C_129 hX (dp1 hd (by decide)) hG hpz29 hpzz29 hqz29 hqzz29 hpqz29 jNI jPI jQI (k := v11) (x := l28) (p := pz29) (pz := pzz29) (q := qz29) (qz := qzz29) (fun r30 M36 hG32 F31 p_33 p_34 p_35 => ?_)
  have n_37 : M36.1.2.1 = M.1.2.1 ∧ M36.1.2.2.1 = M.1.2.2.1 := by rw [F31.1]; exact ⟨rfl, rfl⟩
  refine to_popi (pc := 919) rw_0_919 (to_an (pc := 920) rw_0_920 rfl (to_an (pc := 921) rw_0_921 rfl (to_i (pc := 922) rw_0_922 rfl (to_c (pc := 924) rw_0_924 (x := (1 : Int32)) rfl rfl (s_addk (pc := 925) rw_0_925 (A := i.toInt) (B := 1) rfl rfl (by omega) (v := v9) e10 (s_x0k (pc := 926) rw_0_926 hL (A := v9.toInt) rfl (by omega) (by omega) (v := v11) e12 (to_an (pc := 927) rw_0_927 rfl (to_i (pc := 928) rw_0_928 rfl (to_c (pc := 930) rw_0_930 (x := (2 : Int32)) rfl rfl (s_addk (pc := 931) rw_0_931 (A := i.toInt) (B := 2) rfl rfl (by omega) (v := v13) e14 (s_x0k (pc := 932) rw_0_932 hL (A := v13.toInt) rfl (by omega) (by omega) (v := v15) e16 ?_)))))))))))
  refine s_i2l (pc := 933) rw_0_933 (fun l43 e44 => to_c (pc := 934) rw_0_934 (x := (32 : Int32)) rfl rfl (s_anyS (pc := 936) rw_0_936 (fun _ _ => rfl) (fun l45 => to_an (pc := 937) rw_0_937 rfl (to_i (pc := 938) rw_0_938 rfl (to_c (pc := 940) rw_0_940 (x := (3 : Int32)) rfl rfl (s_addk (pc := 941) rw_0_941 (A := i.toInt) (B := 3) rfl rfl (by omega) (v := v20) e21 (s_x0k (pc := 942) rw_0_942 hL (A := v20.toInt) rfl (by omega) (by omega) (v := v22) e23 (s_i2l (pc := 943) rw_0_943 (fun l48 e49 => s_cl (pc := 944) rw_0_944 rfl (fun l50 => s_anyL (pc := 947) rw_0_947 (fun _ _ => rfl) (fun l51 => s_anyL (pc := 948) rw_0_948 (fun _ _ => rfl) (fun l52 => ?_))))))))))))
  refine s_v (pc := 949) rw_0_949 (dp0 hd (by decide)) (ls0 := [.ref 77, .int v11, .long l52, .null, .null, .null]) rfl (Nat.le_of_ble_eq_true rfl) (Nat.le_of_ble_eq_true rfl) rfl (to_rc rfl rfl rfl (g_o hG32 rfl)) rfl ?_
  have j_53 := (NJ_f (tg_438 F31) jNJ)
  refine C_208 hX (dp1 hd (by decide)) hG32 j_53 (p := v11) (x := l52) (fun r54 M57 hG56 F55 => ?_)
  have n_58 : M57.1.2.1 = M36.1.2.1 ∧ M57.1.2.2.1 = M36.1.2.2.1 := by rw [F55.1]; exact ⟨rfl, rfl⟩
  refine to_popi (pc := 952) rw_0_952 (to_go (pc := 953) rw_0_953 ?_)
  have c_60 : M57.2.1 77 7 = (M.2.1 77 7) := (F_n F55 (show ¬ (77 = 77 ∧ 7 = 2 ∨ 94 ≤ 77 ∧ 77 ≤ 98) by decide) (F_n F31 (show ¬ (11 ≤ 77 ∧ 77 ≤ 16 ∨ 18 ≤ 77 ∧ 77 ≤ 48 ∨ 67 ≤ 77 ∧ 77 ≤ 76) by decide) rfl))
  have t_61 : (M57.2.1 77 7).toInt = (M.2.1 77 7).toInt := congrArg Int32.toInt c_60
  have c_62 : M57.2.1 77 6 = (M.2.1 77 6) := (F_n F55 (show ¬ (77 = 77 ∧ 6 = 2 ∨ 94 ≤ 77 ∧ 77 ≤ 98) by decide) (F_n F31 (show ¬ (11 ≤ 77 ∧ 77 ≤ 16 ∨ 18 ≤ 77 ∧ 77 ≤ 48 ∨ 67 ≤ 77 ∧ 77 ≤ 76) by decide) rfl))
  have t_63 : (M57.2.1 77 6).toInt = (M.2.1 77 6).toInt := congrArg Int32.toInt c_62
  have c_64 : M57.2.1 1 1 = (M.2.1 1 1) := (F_n F55 (show ¬ (1 = 77 ∧ 1 = 2 ∨ 94 ≤ 1 ∧ 1 ≤ 98) by decide) (F_n F31 (show ¬ (11 ≤ 1 ∧ 1 ≤ 16 ∨ 18 ≤ 1 ∧ 1 ≤ 48 ∨ 67 ≤ 1 ∧ 1 ≤ 76) by decide) rfl))
  have t_65 : (M57.2.1 1 1).toInt = (M.2.1 1 1).toInt := congrArg Int32.toInt c_64
  have c_66 : M57.2.1 77 1 = (M.2.1 77 1) := (F_n F55 (show ¬ (77 = 77 ∧ 1 = 2 ∨ 94 ≤ 77 ∧ 77 ≤ 98) by decide) (F_n F31 (show ¬ (11 ≤ 77 ∧ 77 ≤ 16 ∨ 18 ≤ 77 ∧ 77 ≤ 48 ∨ 67 ≤ 77 ∧ 77 ≤ 76) by decide) rfl))
  have t_67 : (M57.2.1 77 1).toInt = (M.2.1 77 1).toInt := congrArg Int32.toInt c_66
  have c_68 : M57.2.1 0 12 = (M.2.1 0 12) := (F_n F55 (show ¬ (0 = 77 ∧ 12 = 2 ∨ 94 ≤ 0 ∧ 0 ≤ 98) by decide) (F_n F31 (show ¬ (11 ≤ 0 ∧ 0 ≤ 16 ∨ 18 ≤ 0 ∧ 0 ≤ 48 ∨ 67 ≤ 0 ∧ 0 ≤ 76) by decide) rfl))
  have t_69 : (M57.2.1 0 12).toInt = (M.2.1 0 12).toInt := congrArg Int32.toInt c_68
  have c_70 : M57.2.1 77 28 = (M.2.1 77 28) := (F_n F55 (show ¬ (77 = 77 ∧ 28 = 2 ∨ 94 ≤ 77 ∧ 77 ≤ 98) by decide) (F_n F31 (show ¬ (11 ≤ 77 ∧ 77 ≤ 16 ∨ 18 ≤ 77 ∧ 77 ≤ 48 ∨ 67 ≤ 77 ∧ 77 ≤ 76) by decide) rfl))
  have t_71 : (M57.2.1 77 28).toInt = (M.2.1 77 28).toInt := congrArg Int32.toInt c_70
  have c_72 : M57.2.1 17 4 = (M.2.1 17 4) := (F_n F55 (show ¬ (17 = 77 ∧ 4 = 2 ∨ 94 ≤ 17 ∧ 17 ≤ 98) by decide) (F_n F31 (show ¬ (11 ≤ 17 ∧ 17 ≤ 16 ∨ 18 ≤ 17 ∧ 17 ≤ 48 ∨ 67 ≤ 17 ∧ 17 ≤ 76) by decide) rfl))
  have t_73 : (M57.2.1 17 4).toInt = (M.2.1 17 4).toInt := congrArg Int32.toInt c_72
  have c_74 : M57.2.1 77 41 = (M.2.1 77 41) := (F_n F55 (show ¬ (77 = 77 ∧ 41 = 2 ∨ 94 ≤ 77 ∧ 77 ≤ 98) by decide) (F_n F31 (show ¬ (11 ≤ 77 ∧ 77 ≤ 16 ∨ 18 ≤ 77 ∧ 77 ≤ 48 ∨ 67 ≤ 77 ∧ 77 ≤ 76) by decide) rfl))
  have t_75 : (M57.2.1 77 41).toInt = (M.2.1 77 41).toInt := congrArg Int32.toInt c_74
  have c_76 : M57.2.1 6 0 = (M.2.1 6 0) := (F_n F55 (show ¬ (6 = 77 ∧ 0 = 2 ∨ 94 ≤ 6 ∧ 6 ≤ 98) by decide) (F_n F31 (show ¬ (11 ≤ 6 ∧ 6 ≤ 16 ∨ 18 ≤ 6 ∧ 6 ≤ 48 ∨ 67 ≤ 6 ∧ 6 ≤ 76) by decide) rfl))
  have t_77 : (M57.2.1 6 0).toInt = (M.2.1 6 0).toInt := congrArg Int32.toInt c_76
  have c_78 : M57.2.1 77 29 = (M.2.1 77 29) := (F_n F55 (show ¬ (77 = 77 ∧ 29 = 2 ∨ 94 ≤ 77 ∧ 77 ≤ 98) by decide) (F_n F31 (show ¬ (11 ≤ 77 ∧ 77 ≤ 16 ∨ 18 ≤ 77 ∧ 77 ≤ 48 ∨ 67 ≤ 77 ∧ 77 ≤ 76) by decide) rfl))
  have t_79 : (M57.2.1 77 29).toInt = (M.2.1 77 29).toInt := congrArg Int32.toInt c_78
  have j_80 := (PI_f (tg_439 F55) p_33)
  have j_81 := (NI_f (tg_440 F55) p_34)
  have j_82 := (QI_f (tg_441 F55) p_35)
  have j_83 := (PQE_r F55.2.1 (PQE_r F31.2.1 jPQE))
  have j_84 := (FA_f (tg_442 F55) (FA_f (tg_443 F31) jFA))
  have j_85 := (WC_f (tg_444 F55) (WC_f (tg_445 F31) jWC))
  have j_86 := (NJ_f (tg_446 F55) j_53)
  have j_87 := (PS_f (tg_447 F55) (PS_f (tg_448 F31) jPS))
  have j_88 := (KQ_f (tg_449 F55) (KQ_f (tg_450 F31) jKQ))
  have j_89 := (TP_f (tg_451 F55) (TP_f (tg_452 F31) jTP))
  have j_90 := (W9_f (tg_453 F55) (W9_f (tg_454 F31) jW9))
  have j_91 := (AN_F F55 tg_501 (AN_F F31 tg_502 jAN))
  have j_92 := (NE_r F55.2.1 (NE_r F31.2.1 jNE))
  have j_93 := (W8_f (tg_455 F55) (W8_f (tg_456 F31) jW8))
  exact h M57 (u5) (u6) ⟨⟨⟨⟨⟨⟨⟨⟨hG56, ⟨j_80, j_81, j_82, j_83⟩, ⟨j_84, j_85, j_86, j_87, j_88⟩, by omega, by omega⟩, j_89, j_90⟩, j_92, by omega⟩, AN_a j_91⟩, by omega⟩, j_93⟩, by omega⟩, j_91⟩ (by omega) (by omega)
set_option maxRecDepth 4000 in
set_option maxHeartbeats 0 in
theorem LW_21 {X : mm_X} {d L : Nat} {M : mm_M} {Q : Option Value → mm_M → Prop} {i : Int32} {u5 u6 : Value} (hX : g_X X) (hW : g_W X) (hW2 : g_W2 X) (hL : (X 0).1 = L) (h3 : L ≤ 3072) (hd : 40 ≤ d) (hi : 0 ≤ i.toInt) (hi2 : i.toInt + 6 ≤ (L : Int)) (H : LI9 M) (h : ∀ (M1 : mm_M) (v5 v6 : Value), LI9 M1 → M1.1.2.1 ≤ M.1.2.1 + 1 → M1.1.2.2.1 ≤ M.1.2.2.1 + 6 → mm_T X d 0 1313 [.ref mm_ext, .ref 0, .ref 77, .ref 125, .int i, v5, v6] [] M1 Q) : mm_T X d 0 956 [.ref mm_ext, .ref 0, .ref 77, .ref 125, .int i, u5, u6] [] M Q := by
  obtain ⟨⟨⟨⟨⟨⟨⟨⟨hG, ⟨jPI, jNI, jQI, jPQE⟩, ⟨jFA, jWC, jNJ, jPS, jKQ⟩, jJ, jE⟩, jTP, jW9⟩, jNE, jCC⟩, -⟩, jOV⟩, jW8⟩, jNN⟩, jAN⟩ := H
  have b_1 := g_b hG (a := 77) (i := 7) (lo := 0) (hi := 500) rfl rfl
  have b_2 := g_b hG (a := 77) (i := 6) (lo := 0) (hi := 500) rfl rfl
  have b_3 := g_b hG (a := 1) (i := 1) (lo := 0) (hi := 500) rfl rfl
  have b_4 := g_b hG (a := 77) (i := 1) (lo := 0) (hi := 500) rfl rfl
  have b_5 := g_b hG (a := 0) (i := 12) (lo := 0) (hi := 30) rfl rfl
  have b_6 := g_b hG (a := 77) (i := 28) (lo := 0) (hi := 30) rfl rfl
  have b_7 := g_b hG (a := 6) (i := 0) (lo := 0) (hi := 150) rfl rfl
  have b_8 := g_b hG (a := 77) (i := 29) (lo := 0) (hi := 150) rfl rfl
  refine to_an (pc := 956) rw_0_956 rfl (s_v (pc := 957) rw_0_957 (dp0 hd (by decide)) (ls0 := [.ref 0, .null]) rfl (Nat.le_of_ble_eq_true rfl) (Nat.le_of_ble_eq_true rfl) rfl (to_rc rfl rfl rfl (g_o hG rfl)) rfl ?_)
  obtain ⟨pz9, pzz9, qz9, qzz9, hpz9, hpzz9, hqz9, hqzz9, hpqz9⟩ := id jPQE
  refine C_130 hX (dp1 hd (by decide)) hG hpz9 hpzz9 hqz9 hqzz9 hpqz9 jPI jNI jQI (p := pz9) (pz := pzz9) (q := qz9) (qz := qzz9) (fun r10 M18 hG12 F11 p_13 p_14 p_15 p_16 p_17 => ?_)
  have n_19 : M18.1.2.1 = M.1.2.1 ∧ M18.1.2.2.1 = M.1.2.2.1 := by rw [F11.1]; exact ⟨rfl, rfl⟩
  refine to_popi (pc := 960) rw_0_960 (to_an (pc := 961) rw_0_961 rfl (s_v (pc := 962) rw_0_962 (dp0 hd (by decide)) (ls0 := [.ref 77, .null]) rfl (Nat.le_of_ble_eq_true rfl) (Nat.le_of_ble_eq_true rfl) rfl (to_rc rfl rfl rfl (g_o hG12 rfl)) rfl ?_))
  have c_21 : M18.2.1 77 28 = (M.2.1 77 28) := (F_n F11 (show ¬ (17 ≤ 77 ∧ 77 ≤ 27) by decide) rfl)
  have t_22 : (M18.2.1 77 28).toInt = (M.2.1 77 28).toInt := congrArg Int32.toInt c_21
  refine C_209 hX (dp1 hd (by decide)) hG12  (fun r23 M29 hG25 F24 p_26 p_27 p_28 => ?_)
  have n_30 : M29.1.2.1 = M18.1.2.1 ∧ M29.1.2.2.1 = M18.1.2.2.1 := by rw [F24.1]; exact ⟨rfl, rfl⟩
  refine to_popi (pc := 965) rw_0_965 (to_go (pc := 966) rw_0_966 ?_)
  have c_32 : M29.2.1 77 7 = (M.2.1 77 7) := (F_n F24 (show ¬ (77 = 77 ∧ (7 = 2 ∨ 7 = 41) ∨ 77 = 99 ∨ 77 = 100) by decide) (F_n F11 (show ¬ (17 ≤ 77 ∧ 77 ≤ 27) by decide) rfl))
  have t_33 : (M29.2.1 77 7).toInt = (M.2.1 77 7).toInt := congrArg Int32.toInt c_32
  have c_34 : M29.2.1 77 6 = (M.2.1 77 6) := (F_n F24 (show ¬ (77 = 77 ∧ (6 = 2 ∨ 6 = 41) ∨ 77 = 99 ∨ 77 = 100) by decide) (F_n F11 (show ¬ (17 ≤ 77 ∧ 77 ≤ 27) by decide) rfl))
  have t_35 : (M29.2.1 77 6).toInt = (M.2.1 77 6).toInt := congrArg Int32.toInt c_34
  have c_36 : M29.2.1 1 1 = (M.2.1 1 1) := (F_n F24 (show ¬ (1 = 77 ∧ (1 = 2 ∨ 1 = 41) ∨ 1 = 99 ∨ 1 = 100) by decide) (F_n F11 (show ¬ (17 ≤ 1 ∧ 1 ≤ 27) by decide) rfl))
  have t_37 : (M29.2.1 1 1).toInt = (M.2.1 1 1).toInt := congrArg Int32.toInt c_36
  have c_38 : M29.2.1 77 1 = (M.2.1 77 1) := (F_n F24 (show ¬ (77 = 77 ∧ (1 = 2 ∨ 1 = 41) ∨ 77 = 99 ∨ 77 = 100) by decide) (F_n F11 (show ¬ (17 ≤ 77 ∧ 77 ≤ 27) by decide) rfl))
  have t_39 : (M29.2.1 77 1).toInt = (M.2.1 77 1).toInt := congrArg Int32.toInt c_38
  have c_40 : M29.2.1 0 12 = (M.2.1 0 12) := (F_n F24 (show ¬ (0 = 77 ∧ (12 = 2 ∨ 12 = 41) ∨ 0 = 99 ∨ 0 = 100) by decide) (F_n F11 (show ¬ (17 ≤ 0 ∧ 0 ≤ 27) by decide) rfl))
  have t_41 : (M29.2.1 0 12).toInt = (M.2.1 0 12).toInt := congrArg Int32.toInt c_40
  have c_42 : M29.2.1 77 28 = (M.2.1 77 28) := (F_n F24 (show ¬ (77 = 77 ∧ (28 = 2 ∨ 28 = 41) ∨ 77 = 99 ∨ 77 = 100) by decide) c_21)
  have t_43 : (M29.2.1 77 28).toInt = (M.2.1 77 28).toInt := congrArg Int32.toInt c_42
  have c_44 : M29.2.1 17 4 = (M18.2.1 17 4) := (F_n F24 (show ¬ (17 = 77 ∧ (4 = 2 ∨ 4 = 41) ∨ 17 = 99 ∨ 17 = 100) by decide) rfl)
  have t_45 : (M29.2.1 17 4).toInt = (M18.2.1 17 4).toInt := congrArg Int32.toInt c_44
  have c_46 : M29.2.1 6 0 = (M.2.1 6 0) := (F_n F24 (show ¬ (6 = 77 ∧ (0 = 2 ∨ 0 = 41) ∨ 6 = 99 ∨ 6 = 100) by decide) (F_n F11 (show ¬ (17 ≤ 6 ∧ 6 ≤ 27) by decide) rfl))
  have t_47 : (M29.2.1 6 0).toInt = (M.2.1 6 0).toInt := congrArg Int32.toInt c_46
  have c_48 : M29.2.1 77 29 = (M.2.1 77 29) := (F_n F24 (show ¬ (77 = 77 ∧ (29 = 2 ∨ 29 = 41) ∨ 77 = 99 ∨ 77 = 100) by decide) (F_n F11 (show ¬ (17 ≤ 77 ∧ 77 ≤ 27) by decide) rfl))
  have t_49 : (M29.2.1 77 29).toInt = (M.2.1 77 29).toInt := congrArg Int32.toInt c_48
  have j_50 := (PI_f (tg_523 F24) p_15)
  have j_51 := (NI_f (tg_524 F24) p_16)
  have j_52 := (QI_f (tg_525 F24) p_17)
  have j_53 := (PQE_r F24.2.1 (PQE_r F11.2.1 jPQE))
  have j_54 := (FA_f (tg_526 F24) (FA_f (tg_527 F11) jFA))
  have j_55 := (WC_f (tg_528 F24) (WC_f (tg_529 F11) jWC))
  have j_56 := (NJ_f (tg_530 F24) (NJ_f (tg_531 F11) jNJ))
  have j_57 := (KQ_f (tg_532 F24) (KQ_f (tg_533 F11) jKQ))
  have j_58 := (TP_f (tg_534 F24) (TP_f (tg_535 F11) jTP))
  have j_59 := (W9_f (tg_536 F24) (W9_f (tg_537 F11) jW9))
  have j_60 := (AN_F F24 tg_608 (AN_F F11 tg_609 jAN))
  have j_61 := (NE_r F24.2.1 (NE_r F11.2.1 jNE))
  have j_62 := (W8_f (tg_538 F24) (W8_f (tg_539 F11) jW8))
  exact h M29 (u5) (u6) ⟨⟨⟨⟨⟨⟨⟨⟨hG25, ⟨j_50, j_51, j_52, j_53⟩, ⟨j_54, j_55, j_56, p_28, j_57⟩, by omega, by omega⟩, j_58, j_59⟩, j_61, by omega⟩, AN_a j_60⟩, by omega⟩, j_62⟩, by omega⟩, j_60⟩ (by omega) (by omega)
set_option maxRecDepth 4000 in
set_option maxHeartbeats 0 in
theorem LW_22 {X : mm_X} {d L : Nat} {M : mm_M} {Q : Option Value → mm_M → Prop} {i : Int32} {u5 u6 : Value} (hX : g_X X) (hW : g_W X) (hW2 : g_W2 X) (hL : (X 0).1 = L) (h3 : L ≤ 3072) (hd : 40 ≤ d) (hi : 0 ≤ i.toInt) (hi2 : i.toInt + 6 ≤ (L : Int)) (H : LI9 M) (h : ∀ (M1 : mm_M) (v5 v6 : Value), LI9 M1 → M1.1.2.1 ≤ M.1.2.1 + 1 → M1.1.2.2.1 ≤ M.1.2.2.1 + 6 → mm_T X d 0 1313 [.ref mm_ext, .ref 0, .ref 77, .ref 125, .int i, v5, v6] [] M1 Q) : mm_T X d 0 969 [.ref mm_ext, .ref 0, .ref 77, .ref 125, .int i, u5, u6] [] M Q := by
  obtain ⟨⟨⟨⟨⟨⟨⟨⟨hG, ⟨jPI, jNI, jQI, jPQE⟩, ⟨jFA, jWC, jNJ, jPS, jKQ⟩, jJ, jE⟩, jTP, jW9⟩, jNE, jCC⟩, -⟩, jOV⟩, jW8⟩, jNN⟩, jAN⟩ := H
  have b_1 := g_b hG (a := 77) (i := 7) (lo := 0) (hi := 500) rfl rfl
  have b_2 := g_b hG (a := 77) (i := 6) (lo := 0) (hi := 500) rfl rfl
  have b_3 := g_b hG (a := 1) (i := 1) (lo := 0) (hi := 500) rfl rfl
  have b_4 := g_b hG (a := 77) (i := 1) (lo := 0) (hi := 500) rfl rfl
  have b_5 := g_b hG (a := 0) (i := 12) (lo := 0) (hi := 30) rfl rfl
  have b_6 := g_b hG (a := 77) (i := 28) (lo := 0) (hi := 30) rfl rfl
  have b_7 := g_b hG (a := 6) (i := 0) (lo := 0) (hi := 150) rfl rfl
  have b_8 := g_b hG (a := 77) (i := 29) (lo := 0) (hi := 150) rfl rfl
  refine to_an (pc := 969) rw_0_969 rfl (to_an (pc := 970) rw_0_970 rfl (to_i (pc := 971) rw_0_971 rfl (to_c (pc := 973) rw_0_973 (x := (1 : Int32)) rfl rfl (s_add (pc := 974) rw_0_974 (A := i.toInt) (B := 1) rfl rfl (by omega) (fun v9 e10 => s_x0 (pc := 975) rw_0_975 hL (A := v9.toInt) rfl (by omega) (by omega) (fun v11 e12 => to_an (pc := 976) rw_0_976 rfl (to_i (pc := 977) rw_0_977 rfl (to_c (pc := 979) rw_0_979 (x := (2 : Int32)) rfl rfl (s_add (pc := 980) rw_0_980 (A := i.toInt) (B := 2) rfl rfl (by omega) (fun v13 e14 => s_x0 (pc := 981) rw_0_981 hL (A := v13.toInt) rfl (by omega) (by omega) (fun v15 e16 => s_v (pc := 982) rw_0_982 (dp0 hd (by decide)) (ls0 := [.ref 0, .int v11, .int v15, .null, .null]) rfl (Nat.le_of_ble_eq_true rfl) (Nat.le_of_ble_eq_true rfl) rfl (to_rc rfl rfl rfl (g_o hG rfl)) rfl ?_)))))))))))
  obtain ⟨pz17, pzz17, qz17, qzz17, hpz17, hpzz17, hqz17, hqzz17, hpqz17⟩ := id jPQE
  refine C_131 hX (dp1 hd (by decide)) hG hpz17 hpzz17 hqz17 hqzz17 hpqz17 jNI jQI (n := v11) (w := v15) (p := pz17) (pz := pzz17) (q := qz17) (qz := qzz17) (fun r18 M21 hG20 F19 => ?_)
  have n_22 : M21.1.2.1 = M.1.2.1 ∧ M21.1.2.2.1 = M.1.2.2.1 := by rw [F19.1]; exact ⟨rfl, rfl⟩
  refine to_popi (pc := 985) rw_0_985 (to_an (pc := 986) rw_0_986 rfl (to_an (pc := 987) rw_0_987 rfl (to_i (pc := 988) rw_0_988 rfl (to_c (pc := 990) rw_0_990 (x := (1 : Int32)) rfl rfl (s_addk (pc := 991) rw_0_991 (A := i.toInt) (B := 1) rfl rfl (by omega) (v := v9) e10 (s_x0k (pc := 992) rw_0_992 hL (A := v9.toInt) rfl (by omega) (by omega) (v := v11) e12 (to_an (pc := 993) rw_0_993 rfl (to_i (pc := 994) rw_0_994 rfl (to_c (pc := 996) rw_0_996 (x := (2 : Int32)) rfl rfl (s_addk (pc := 997) rw_0_997 (A := i.toInt) (B := 2) rfl rfl (by omega) (v := v13) e14 (s_x0k (pc := 998) rw_0_998 hL (A := v13.toInt) rfl (by omega) (by omega) (v := v15) e16 ?_)))))))))))
  refine s_v (pc := 999) rw_0_999 (dp0 hd (by decide)) (ls0 := [.ref 77, .int v11, .int v15, .null, .null, .null]) rfl (Nat.le_of_ble_eq_true rfl) (Nat.le_of_ble_eq_true rfl) rfl (to_rc rfl rfl rfl (g_o hG20 rfl)) rfl ?_
  have j_28 := (NJ_f (tg_540 F19) jNJ)
  have j_29 := (KQ_f (tg_541 F19) jKQ)
  refine C_229 hX (dp1 hd (by decide)) hG20 j_28 j_29 (n := v11) (w := v15) (fun r30 M33 hG32 F31 => ?_)
  have n_34 : M33.1.2.1 = M21.1.2.1 ∧ M33.1.2.2.1 = M21.1.2.2.1 := by rw [F31.1]; exact ⟨rfl, rfl⟩
  refine to_popi (pc := 1002) rw_0_1002 (to_go (pc := 1003) rw_0_1003 ?_)
  have c_36 : M33.2.1 77 7 = (M.2.1 77 7) := (F_n F31 (show ¬ (77 = 77 ∧ 7 = 2 ∨ 94 ≤ 77 ∧ 77 ≤ 98 ∨ 77 = 117) by decide) (F_n F19 (show ¬ (11 ≤ 77 ∧ 77 ≤ 16 ∨ 77 = 71 ∨ 77 = 76) by decide) rfl))
  have t_37 : (M33.2.1 77 7).toInt = (M.2.1 77 7).toInt := congrArg Int32.toInt c_36
  have c_38 : M33.2.1 77 6 = (M.2.1 77 6) := (F_n F31 (show ¬ (77 = 77 ∧ 6 = 2 ∨ 94 ≤ 77 ∧ 77 ≤ 98 ∨ 77 = 117) by decide) (F_n F19 (show ¬ (11 ≤ 77 ∧ 77 ≤ 16 ∨ 77 = 71 ∨ 77 = 76) by decide) rfl))
  have t_39 : (M33.2.1 77 6).toInt = (M.2.1 77 6).toInt := congrArg Int32.toInt c_38
  have c_40 : M33.2.1 1 1 = (M.2.1 1 1) := (F_n F31 (show ¬ (1 = 77 ∧ 1 = 2 ∨ 94 ≤ 1 ∧ 1 ≤ 98 ∨ 1 = 117) by decide) (F_n F19 (show ¬ (11 ≤ 1 ∧ 1 ≤ 16 ∨ 1 = 71 ∨ 1 = 76) by decide) rfl))
  have t_41 : (M33.2.1 1 1).toInt = (M.2.1 1 1).toInt := congrArg Int32.toInt c_40
  have c_42 : M33.2.1 77 1 = (M.2.1 77 1) := (F_n F31 (show ¬ (77 = 77 ∧ 1 = 2 ∨ 94 ≤ 77 ∧ 77 ≤ 98 ∨ 77 = 117) by decide) (F_n F19 (show ¬ (11 ≤ 77 ∧ 77 ≤ 16 ∨ 77 = 71 ∨ 77 = 76) by decide) rfl))
  have t_43 : (M33.2.1 77 1).toInt = (M.2.1 77 1).toInt := congrArg Int32.toInt c_42
  have c_44 : M33.2.1 0 12 = (M.2.1 0 12) := (F_n F31 (show ¬ (0 = 77 ∧ 12 = 2 ∨ 94 ≤ 0 ∧ 0 ≤ 98 ∨ 0 = 117) by decide) (F_n F19 (show ¬ (11 ≤ 0 ∧ 0 ≤ 16 ∨ 0 = 71 ∨ 0 = 76) by decide) rfl))
  have t_45 : (M33.2.1 0 12).toInt = (M.2.1 0 12).toInt := congrArg Int32.toInt c_44
  have c_46 : M33.2.1 77 28 = (M.2.1 77 28) := (F_n F31 (show ¬ (77 = 77 ∧ 28 = 2 ∨ 94 ≤ 77 ∧ 77 ≤ 98 ∨ 77 = 117) by decide) (F_n F19 (show ¬ (11 ≤ 77 ∧ 77 ≤ 16 ∨ 77 = 71 ∨ 77 = 76) by decide) rfl))
  have t_47 : (M33.2.1 77 28).toInt = (M.2.1 77 28).toInt := congrArg Int32.toInt c_46
  have c_48 : M33.2.1 17 4 = (M.2.1 17 4) := (F_n F31 (show ¬ (17 = 77 ∧ 4 = 2 ∨ 94 ≤ 17 ∧ 17 ≤ 98 ∨ 17 = 117) by decide) (F_n F19 (show ¬ (11 ≤ 17 ∧ 17 ≤ 16 ∨ 17 = 71 ∨ 17 = 76) by decide) rfl))
  have t_49 : (M33.2.1 17 4).toInt = (M.2.1 17 4).toInt := congrArg Int32.toInt c_48
  have c_50 : M33.2.1 77 41 = (M.2.1 77 41) := (F_n F31 (show ¬ (77 = 77 ∧ 41 = 2 ∨ 94 ≤ 77 ∧ 77 ≤ 98 ∨ 77 = 117) by decide) (F_n F19 (show ¬ (11 ≤ 77 ∧ 77 ≤ 16 ∨ 77 = 71 ∨ 77 = 76) by decide) rfl))
  have t_51 : (M33.2.1 77 41).toInt = (M.2.1 77 41).toInt := congrArg Int32.toInt c_50
  have c_52 : M33.2.1 6 0 = (M.2.1 6 0) := (F_n F31 (show ¬ (6 = 77 ∧ 0 = 2 ∨ 94 ≤ 6 ∧ 6 ≤ 98 ∨ 6 = 117) by decide) (F_n F19 (show ¬ (11 ≤ 6 ∧ 6 ≤ 16 ∨ 6 = 71 ∨ 6 = 76) by decide) rfl))
  have t_53 : (M33.2.1 6 0).toInt = (M.2.1 6 0).toInt := congrArg Int32.toInt c_52
  have c_54 : M33.2.1 77 29 = (M.2.1 77 29) := (F_n F31 (show ¬ (77 = 77 ∧ 29 = 2 ∨ 94 ≤ 77 ∧ 77 ≤ 98 ∨ 77 = 117) by decide) (F_n F19 (show ¬ (11 ≤ 77 ∧ 77 ≤ 16 ∨ 77 = 71 ∨ 77 = 76) by decide) rfl))
  have t_55 : (M33.2.1 77 29).toInt = (M.2.1 77 29).toInt := congrArg Int32.toInt c_54
  have j_56 := (PI_f (tg_542 F31) (PI_f (tg_543 F19) jPI))
  have j_57 := (NI_f (tg_544 F31) (NI_f (tg_545 F19) jNI))
  have j_58 := (QI_f (tg_546 F31) (QI_f (tg_547 F19) jQI))
  have j_59 := (PQE_r F31.2.1 (PQE_r F19.2.1 jPQE))
  have j_60 := (FA_f (tg_548 F31) (FA_f (tg_549 F19) jFA))
  have j_61 := (WC_f (tg_550 F31) (WC_f (tg_551 F19) jWC))
  have j_62 := (NJ_f (tg_552 F31) j_28)
  have j_63 := (PS_f (tg_553 F31) (PS_f (tg_554 F19) jPS))
  have j_64 := (KQ_f (tg_555 F31) j_29)
  have j_65 := (TP_f (tg_556 F31) (TP_f (tg_557 F19) jTP))
  have j_66 := (W9_f (tg_558 F31) (W9_f (tg_559 F19) jW9))
  have j_67 := (AN_F F31 tg_610 (AN_F F19 tg_611 jAN))
  have j_68 := (NE_r F31.2.1 (NE_r F19.2.1 jNE))
  have j_69 := (W8_f (tg_560 F31) (W8_f (tg_561 F19) jW8))
  exact h M33 (u5) (u6) ⟨⟨⟨⟨⟨⟨⟨⟨hG32, ⟨j_56, j_57, j_58, j_59⟩, ⟨j_60, j_61, j_62, j_63, j_64⟩, by omega, by omega⟩, j_65, j_66⟩, j_68, by omega⟩, AN_a j_67⟩, by omega⟩, j_69⟩, by omega⟩, j_67⟩ (by omega) (by omega)
set_option maxRecDepth 4000 in
set_option maxHeartbeats 0 in
theorem LW_23 {X : mm_X} {d L : Nat} {M : mm_M} {Q : Option Value → mm_M → Prop} {i : Int32} {u5 u6 : Value} (hX : g_X X) (hW : g_W X) (hW2 : g_W2 X) (hL : (X 0).1 = L) (h3 : L ≤ 3072) (hd : 40 ≤ d) (hi : 0 ≤ i.toInt) (hi2 : i.toInt + 6 ≤ (L : Int)) (H : LI9 M) (h : ∀ (M1 : mm_M) (v5 v6 : Value), LI9 M1 → M1.1.2.1 ≤ M.1.2.1 + 1 → M1.1.2.2.1 ≤ M.1.2.2.1 + 6 → mm_T X d 0 1313 [.ref mm_ext, .ref 0, .ref 77, .ref 125, .int i, v5, v6] [] M1 Q) : mm_T X d 0 1006 [.ref mm_ext, .ref 0, .ref 77, .ref 125, .int i, u5, u6] [] M Q := by
  obtain ⟨⟨⟨⟨⟨⟨⟨⟨hG, ⟨jPI, jNI, jQI, jPQE⟩, ⟨jFA, jWC, jNJ, jPS, jKQ⟩, jJ, jE⟩, jTP, jW9⟩, jNE, jCC⟩, -⟩, jOV⟩, jW8⟩, jNN⟩, jAN⟩ := H
  have b_1 := g_b hG (a := 77) (i := 7) (lo := 0) (hi := 500) rfl rfl
  have b_2 := g_b hG (a := 77) (i := 6) (lo := 0) (hi := 500) rfl rfl
  have b_3 := g_b hG (a := 1) (i := 1) (lo := 0) (hi := 500) rfl rfl
  have b_4 := g_b hG (a := 77) (i := 1) (lo := 0) (hi := 500) rfl rfl
  have b_5 := g_b hG (a := 0) (i := 12) (lo := 0) (hi := 30) rfl rfl
  have b_6 := g_b hG (a := 77) (i := 28) (lo := 0) (hi := 30) rfl rfl
  have b_7 := g_b hG (a := 6) (i := 0) (lo := 0) (hi := 150) rfl rfl
  have b_8 := g_b hG (a := 77) (i := 29) (lo := 0) (hi := 150) rfl rfl
  refine to_an (pc := 1006) rw_0_1006 rfl (to_an (pc := 1007) rw_0_1007 rfl (to_i (pc := 1008) rw_0_1008 rfl (to_c (pc := 1010) rw_0_1010 (x := (1 : Int32)) rfl rfl (s_add (pc := 1011) rw_0_1011 (A := i.toInt) (B := 1) rfl rfl (by omega) (fun v9 e10 => s_x0 (pc := 1012) rw_0_1012 hL (A := v9.toInt) rfl (by omega) (by omega) (fun v11 e12 => to_an (pc := 1013) rw_0_1013 rfl (to_i (pc := 1014) rw_0_1014 rfl (to_c (pc := 1016) rw_0_1016 (x := (2 : Int32)) rfl rfl (s_add (pc := 1017) rw_0_1017 (A := i.toInt) (B := 2) rfl rfl (by omega) (fun v13 e14 => s_x0 (pc := 1018) rw_0_1018 hL (A := v13.toInt) rfl (by omega) (by omega) (fun v15 e16 => to_an (pc := 1019) rw_0_1019 rfl ?_)))))))))))
  refine to_i (pc := 1020) rw_0_1020 rfl (to_c (pc := 1022) rw_0_1022 (x := (3 : Int32)) rfl rfl (s_add (pc := 1023) rw_0_1023 (A := i.toInt) (B := 3) rfl rfl (by omega) (fun v17 e18 => s_x0 (pc := 1024) rw_0_1024 hL (A := v17.toInt) rfl (by omega) (by omega) (fun v19 e20 => s_v (pc := 1025) rw_0_1025 (dp0 hd (by decide)) (ls0 := [.ref 0, .int v11, .int v15, .int v19, .null, .null, .null, .null, .null]) rfl (Nat.le_of_ble_eq_true rfl) (Nat.le_of_ble_eq_true rfl) rfl (to_rc rfl rfl rfl (g_o hG rfl)) rfl ?_))))
  obtain ⟨pz21, pzz21, qz21, qzz21, hpz21, hpzz21, hqz21, hqzz21, hpqz21⟩ := id jPQE
  refine C_132 hX (dp1 hd (by decide)) hG hpz21 hpzz21 hqz21 hqzz21 hpqz21 jNI jPI jQI (n := v11) (w := v15) (k := v19) (p := pz21) (pz := pzz21) (q := qz21) (qz := qzz21) (fun r22 M28 hG24 F23 p_25 p_26 p_27 => ?_)
  have n_29 : M28.1.2.1 = M.1.2.1 ∧ M28.1.2.2.1 = M.1.2.2.1 := by rw [F23.1]; exact ⟨rfl, rfl⟩
  refine s_pop2 (pc := 1028) rw_0_1028 (to_an (pc := 1029) rw_0_1029 rfl (to_an (pc := 1030) rw_0_1030 rfl (to_i (pc := 1031) rw_0_1031 rfl (to_c (pc := 1033) rw_0_1033 (x := (1 : Int32)) rfl rfl (s_addk (pc := 1034) rw_0_1034 (A := i.toInt) (B := 1) rfl rfl (by omega) (v := v9) e10 (s_x0k (pc := 1035) rw_0_1035 hL (A := v9.toInt) rfl (by omega) (by omega) (v := v11) e12 (to_an (pc := 1036) rw_0_1036 rfl (to_i (pc := 1037) rw_0_1037 rfl (to_c (pc := 1039) rw_0_1039 (x := (2 : Int32)) rfl rfl (s_addk (pc := 1040) rw_0_1040 (A := i.toInt) (B := 2) rfl rfl (by omega) (v := v13) e14 (s_x0k (pc := 1041) rw_0_1041 hL (A := v13.toInt) rfl (by omega) (by omega) (v := v15) e16 ?_)))))))))))
  refine to_an (pc := 1042) rw_0_1042 rfl (to_i (pc := 1043) rw_0_1043 rfl (to_c (pc := 1045) rw_0_1045 (x := (3 : Int32)) rfl rfl (s_addk (pc := 1046) rw_0_1046 (A := i.toInt) (B := 3) rfl rfl (by omega) (v := v17) e18 (s_x0k (pc := 1047) rw_0_1047 hL (A := v17.toInt) rfl (by omega) (by omega) (v := v19) e20 (s_v (pc := 1048) rw_0_1048 (dp0 hd (by decide)) (ls0 := [.ref 77, .int v11, .int v15, .int v19, .null, .null, .null, .null]) rfl (Nat.le_of_ble_eq_true rfl) (Nat.le_of_ble_eq_true rfl) rfl (to_rc rfl rfl rfl (g_o hG24 rfl)) rfl ?_)))))
  have j_37 := (NJ_f (tg_438 F23) jNJ)
  refine C_233 hX (dp1 hd (by decide)) hG24 j_37 (n := v11) (w := v15) (k := v19) (fun r38 M41 hG40 F39 => ?_)
  have n_42 : M41.1.2.1 = M28.1.2.1 ∧ M41.1.2.2.1 = M28.1.2.2.1 := by rw [F39.1]; exact ⟨rfl, rfl⟩
  refine s_pop2 (pc := 1051) rw_0_1051 (to_go (pc := 1052) rw_0_1052 ?_)
  have c_44 : M41.2.1 77 7 = (M.2.1 77 7) := (F_n F39 (show ¬ (77 = 77 ∧ 7 = 2 ∨ 94 ≤ 77 ∧ 77 ≤ 98) by decide) (F_n F23 (show ¬ (11 ≤ 77 ∧ 77 ≤ 16 ∨ 18 ≤ 77 ∧ 77 ≤ 48 ∨ 67 ≤ 77 ∧ 77 ≤ 76) by decide) rfl))
  have t_45 : (M41.2.1 77 7).toInt = (M.2.1 77 7).toInt := congrArg Int32.toInt c_44
  have c_46 : M41.2.1 77 6 = (M.2.1 77 6) := (F_n F39 (show ¬ (77 = 77 ∧ 6 = 2 ∨ 94 ≤ 77 ∧ 77 ≤ 98) by decide) (F_n F23 (show ¬ (11 ≤ 77 ∧ 77 ≤ 16 ∨ 18 ≤ 77 ∧ 77 ≤ 48 ∨ 67 ≤ 77 ∧ 77 ≤ 76) by decide) rfl))
  have t_47 : (M41.2.1 77 6).toInt = (M.2.1 77 6).toInt := congrArg Int32.toInt c_46
  have c_48 : M41.2.1 1 1 = (M.2.1 1 1) := (F_n F39 (show ¬ (1 = 77 ∧ 1 = 2 ∨ 94 ≤ 1 ∧ 1 ≤ 98) by decide) (F_n F23 (show ¬ (11 ≤ 1 ∧ 1 ≤ 16 ∨ 18 ≤ 1 ∧ 1 ≤ 48 ∨ 67 ≤ 1 ∧ 1 ≤ 76) by decide) rfl))
  have t_49 : (M41.2.1 1 1).toInt = (M.2.1 1 1).toInt := congrArg Int32.toInt c_48
  have c_50 : M41.2.1 77 1 = (M.2.1 77 1) := (F_n F39 (show ¬ (77 = 77 ∧ 1 = 2 ∨ 94 ≤ 77 ∧ 77 ≤ 98) by decide) (F_n F23 (show ¬ (11 ≤ 77 ∧ 77 ≤ 16 ∨ 18 ≤ 77 ∧ 77 ≤ 48 ∨ 67 ≤ 77 ∧ 77 ≤ 76) by decide) rfl))
  have t_51 : (M41.2.1 77 1).toInt = (M.2.1 77 1).toInt := congrArg Int32.toInt c_50
  have c_52 : M41.2.1 0 12 = (M.2.1 0 12) := (F_n F39 (show ¬ (0 = 77 ∧ 12 = 2 ∨ 94 ≤ 0 ∧ 0 ≤ 98) by decide) (F_n F23 (show ¬ (11 ≤ 0 ∧ 0 ≤ 16 ∨ 18 ≤ 0 ∧ 0 ≤ 48 ∨ 67 ≤ 0 ∧ 0 ≤ 76) by decide) rfl))
  have t_53 : (M41.2.1 0 12).toInt = (M.2.1 0 12).toInt := congrArg Int32.toInt c_52
  have c_54 : M41.2.1 77 28 = (M.2.1 77 28) := (F_n F39 (show ¬ (77 = 77 ∧ 28 = 2 ∨ 94 ≤ 77 ∧ 77 ≤ 98) by decide) (F_n F23 (show ¬ (11 ≤ 77 ∧ 77 ≤ 16 ∨ 18 ≤ 77 ∧ 77 ≤ 48 ∨ 67 ≤ 77 ∧ 77 ≤ 76) by decide) rfl))
  have t_55 : (M41.2.1 77 28).toInt = (M.2.1 77 28).toInt := congrArg Int32.toInt c_54
  have c_56 : M41.2.1 17 4 = (M.2.1 17 4) := (F_n F39 (show ¬ (17 = 77 ∧ 4 = 2 ∨ 94 ≤ 17 ∧ 17 ≤ 98) by decide) (F_n F23 (show ¬ (11 ≤ 17 ∧ 17 ≤ 16 ∨ 18 ≤ 17 ∧ 17 ≤ 48 ∨ 67 ≤ 17 ∧ 17 ≤ 76) by decide) rfl))
  have t_57 : (M41.2.1 17 4).toInt = (M.2.1 17 4).toInt := congrArg Int32.toInt c_56
  have c_58 : M41.2.1 77 41 = (M.2.1 77 41) := (F_n F39 (show ¬ (77 = 77 ∧ 41 = 2 ∨ 94 ≤ 77 ∧ 77 ≤ 98) by decide) (F_n F23 (show ¬ (11 ≤ 77 ∧ 77 ≤ 16 ∨ 18 ≤ 77 ∧ 77 ≤ 48 ∨ 67 ≤ 77 ∧ 77 ≤ 76) by decide) rfl))
  have t_59 : (M41.2.1 77 41).toInt = (M.2.1 77 41).toInt := congrArg Int32.toInt c_58
  have c_60 : M41.2.1 6 0 = (M.2.1 6 0) := (F_n F39 (show ¬ (6 = 77 ∧ 0 = 2 ∨ 94 ≤ 6 ∧ 6 ≤ 98) by decide) (F_n F23 (show ¬ (11 ≤ 6 ∧ 6 ≤ 16 ∨ 18 ≤ 6 ∧ 6 ≤ 48 ∨ 67 ≤ 6 ∧ 6 ≤ 76) by decide) rfl))
  have t_61 : (M41.2.1 6 0).toInt = (M.2.1 6 0).toInt := congrArg Int32.toInt c_60
  have c_62 : M41.2.1 77 29 = (M.2.1 77 29) := (F_n F39 (show ¬ (77 = 77 ∧ 29 = 2 ∨ 94 ≤ 77 ∧ 77 ≤ 98) by decide) (F_n F23 (show ¬ (11 ≤ 77 ∧ 77 ≤ 16 ∨ 18 ≤ 77 ∧ 77 ≤ 48 ∨ 67 ≤ 77 ∧ 77 ≤ 76) by decide) rfl))
  have t_63 : (M41.2.1 77 29).toInt = (M.2.1 77 29).toInt := congrArg Int32.toInt c_62
  have j_64 := (PI_f (tg_439 F39) p_25)
  have j_65 := (NI_f (tg_440 F39) p_26)
  have j_66 := (QI_f (tg_441 F39) p_27)
  have j_67 := (PQE_r F39.2.1 (PQE_r F23.2.1 jPQE))
  have j_68 := (FA_f (tg_442 F39) (FA_f (tg_443 F23) jFA))
  have j_69 := (WC_f (tg_444 F39) (WC_f (tg_445 F23) jWC))
  have j_70 := (NJ_f (tg_446 F39) j_37)
  have j_71 := (PS_f (tg_447 F39) (PS_f (tg_448 F23) jPS))
  have j_72 := (KQ_f (tg_449 F39) (KQ_f (tg_450 F23) jKQ))
  have j_73 := (TP_f (tg_451 F39) (TP_f (tg_452 F23) jTP))
  have j_74 := (W9_f (tg_453 F39) (W9_f (tg_454 F23) jW9))
  have j_75 := (AN_F F39 tg_501 (AN_F F23 tg_502 jAN))
  have j_76 := (NE_r F39.2.1 (NE_r F23.2.1 jNE))
  have j_77 := (W8_f (tg_455 F39) (W8_f (tg_456 F23) jW8))
  exact h M41 (u5) (u6) ⟨⟨⟨⟨⟨⟨⟨⟨hG40, ⟨j_64, j_65, j_66, j_67⟩, ⟨j_68, j_69, j_70, j_71, j_72⟩, by omega, by omega⟩, j_73, j_74⟩, j_76, by omega⟩, AN_a j_75⟩, by omega⟩, j_77⟩, by omega⟩, j_75⟩ (by omega) (by omega)
set_option maxRecDepth 4000 in
set_option maxHeartbeats 0 in
theorem LW_24 {X : mm_X} {d L : Nat} {M : mm_M} {Q : Option Value → mm_M → Prop} {i : Int32} {u5 u6 : Value} (hX : g_X X) (hW : g_W X) (hW2 : g_W2 X) (hL : (X 0).1 = L) (h3 : L ≤ 3072) (hd : 40 ≤ d) (hi : 0 ≤ i.toInt) (hi2 : i.toInt + 6 ≤ (L : Int)) (H : LI9 M) (h : ∀ (M1 : mm_M) (v5 v6 : Value), LI9 M1 → M1.1.2.1 ≤ M.1.2.1 + 1 → M1.1.2.2.1 ≤ M.1.2.2.1 + 6 → mm_T X d 0 1313 [.ref mm_ext, .ref 0, .ref 77, .ref 125, .int i, v5, v6] [] M1 Q) : mm_T X d 0 1055 [.ref mm_ext, .ref 0, .ref 77, .ref 125, .int i, u5, u6] [] M Q := by
  obtain ⟨⟨⟨⟨⟨⟨⟨⟨hG, ⟨jPI, jNI, jQI, jPQE⟩, ⟨jFA, jWC, jNJ, jPS, jKQ⟩, jJ, jE⟩, jTP, jW9⟩, jNE, jCC⟩, -⟩, jOV⟩, jW8⟩, jNN⟩, jAN⟩ := H
  have b_1 := g_b hG (a := 77) (i := 7) (lo := 0) (hi := 500) rfl rfl
  have b_2 := g_b hG (a := 77) (i := 6) (lo := 0) (hi := 500) rfl rfl
  have b_3 := g_b hG (a := 1) (i := 1) (lo := 0) (hi := 500) rfl rfl
  have b_4 := g_b hG (a := 77) (i := 1) (lo := 0) (hi := 500) rfl rfl
  have b_5 := g_b hG (a := 0) (i := 12) (lo := 0) (hi := 30) rfl rfl
  have b_6 := g_b hG (a := 77) (i := 28) (lo := 0) (hi := 30) rfl rfl
  have b_7 := g_b hG (a := 6) (i := 0) (lo := 0) (hi := 150) rfl rfl
  have b_8 := g_b hG (a := 77) (i := 29) (lo := 0) (hi := 150) rfl rfl
  refine to_an (pc := 1055) rw_0_1055 rfl (to_an (pc := 1056) rw_0_1056 rfl (to_i (pc := 1057) rw_0_1057 rfl (to_c (pc := 1059) rw_0_1059 (x := (1 : Int32)) rfl rfl (s_add (pc := 1060) rw_0_1060 (A := i.toInt) (B := 1) rfl rfl (by omega) (fun v9 e10 => s_x0 (pc := 1061) rw_0_1061 hL (A := v9.toInt) rfl (by omega) (by omega) (fun v11 e12 => to_an (pc := 1062) rw_0_1062 rfl (to_i (pc := 1063) rw_0_1063 rfl (to_c (pc := 1065) rw_0_1065 (x := (2 : Int32)) rfl rfl (s_add (pc := 1066) rw_0_1066 (A := i.toInt) (B := 2) rfl rfl (by omega) (fun v13 e14 => s_x0 (pc := 1067) rw_0_1067 hL (A := v13.toInt) rfl (by omega) (by omega) (fun v15 e16 => s_v (pc := 1068) rw_0_1068 (dp0 hd (by decide)) (ls0 := [.ref 0, .int v11, .int v15, .null, .null]) rfl (Nat.le_of_ble_eq_true rfl) (Nat.le_of_ble_eq_true rfl) rfl (to_rc rfl rfl rfl (g_o hG rfl)) rfl ?_)))))))))))
  obtain ⟨pz17, pzz17, qz17, qzz17, hpz17, hpzz17, hqz17, hqzz17, hpqz17⟩ := id jPQE
  refine C_133 hX (dp1 hd (by decide)) hG hpz17 hpzz17 hqz17 hqzz17 hpqz17 jNI jPI jQI (n := v11) (w := v15) (p := pz17) (pz := pzz17) (q := qz17) (qz := qzz17) (fun r18 M24 hG20 F19 p_21 p_22 p_23 => ?_)
  have n_25 : M24.1.2.1 = M.1.2.1 ∧ M24.1.2.2.1 = M.1.2.2.1 := by rw [F19.1]; exact ⟨rfl, rfl⟩
  refine to_popi (pc := 1071) rw_0_1071 (to_an (pc := 1072) rw_0_1072 rfl (to_an (pc := 1073) rw_0_1073 rfl (to_i (pc := 1074) rw_0_1074 rfl (to_c (pc := 1076) rw_0_1076 (x := (1 : Int32)) rfl rfl (s_addk (pc := 1077) rw_0_1077 (A := i.toInt) (B := 1) rfl rfl (by omega) (v := v9) e10 (s_x0k (pc := 1078) rw_0_1078 hL (A := v9.toInt) rfl (by omega) (by omega) (v := v11) e12 (to_an (pc := 1079) rw_0_1079 rfl (to_i (pc := 1080) rw_0_1080 rfl (to_c (pc := 1082) rw_0_1082 (x := (2 : Int32)) rfl rfl (s_addk (pc := 1083) rw_0_1083 (A := i.toInt) (B := 2) rfl rfl (by omega) (v := v13) e14 (s_x0k (pc := 1084) rw_0_1084 hL (A := v13.toInt) rfl (by omega) (by omega) (v := v15) e16 ?_)))))))))))
  refine s_v (pc := 1085) rw_0_1085 (dp0 hd (by decide)) (ls0 := [.ref 77, .int v11, .int v15]) rfl (Nat.le_of_ble_eq_true rfl) (Nat.le_of_ble_eq_true rfl) rfl (to_rc rfl rfl rfl (g_o hG20 rfl)) rfl ?_
  have j_31 := (NJ_f (tg_438 F19) jNJ)
  refine C_235 hX (dp1 hd (by decide)) hG20 j_31 (n := v11) (w := v15) (fun r32 M35 hG34 F33 => ?_)
  have n_36 : M35.1.2.1 = M24.1.2.1 ∧ M35.1.2.2.1 = M24.1.2.2.1 := by rw [F33.1]; exact ⟨rfl, rfl⟩
  refine to_popi (pc := 1088) rw_0_1088 (to_go (pc := 1089) rw_0_1089 ?_)
  have c_38 : M35.2.1 77 7 = (M.2.1 77 7) := (F_n F33 (show ¬ (77 = 77 ∧ 7 = 2 ∨ 94 ≤ 77 ∧ 77 ≤ 98) by decide) (F_n F19 (show ¬ (11 ≤ 77 ∧ 77 ≤ 16 ∨ 18 ≤ 77 ∧ 77 ≤ 48 ∨ 67 ≤ 77 ∧ 77 ≤ 76) by decide) rfl))
  have t_39 : (M35.2.1 77 7).toInt = (M.2.1 77 7).toInt := congrArg Int32.toInt c_38
  have c_40 : M35.2.1 77 6 = (M.2.1 77 6) := (F_n F33 (show ¬ (77 = 77 ∧ 6 = 2 ∨ 94 ≤ 77 ∧ 77 ≤ 98) by decide) (F_n F19 (show ¬ (11 ≤ 77 ∧ 77 ≤ 16 ∨ 18 ≤ 77 ∧ 77 ≤ 48 ∨ 67 ≤ 77 ∧ 77 ≤ 76) by decide) rfl))
  have t_41 : (M35.2.1 77 6).toInt = (M.2.1 77 6).toInt := congrArg Int32.toInt c_40
  have c_42 : M35.2.1 1 1 = (M.2.1 1 1) := (F_n F33 (show ¬ (1 = 77 ∧ 1 = 2 ∨ 94 ≤ 1 ∧ 1 ≤ 98) by decide) (F_n F19 (show ¬ (11 ≤ 1 ∧ 1 ≤ 16 ∨ 18 ≤ 1 ∧ 1 ≤ 48 ∨ 67 ≤ 1 ∧ 1 ≤ 76) by decide) rfl))
  have t_43 : (M35.2.1 1 1).toInt = (M.2.1 1 1).toInt := congrArg Int32.toInt c_42
  have c_44 : M35.2.1 77 1 = (M.2.1 77 1) := (F_n F33 (show ¬ (77 = 77 ∧ 1 = 2 ∨ 94 ≤ 77 ∧ 77 ≤ 98) by decide) (F_n F19 (show ¬ (11 ≤ 77 ∧ 77 ≤ 16 ∨ 18 ≤ 77 ∧ 77 ≤ 48 ∨ 67 ≤ 77 ∧ 77 ≤ 76) by decide) rfl))
  have t_45 : (M35.2.1 77 1).toInt = (M.2.1 77 1).toInt := congrArg Int32.toInt c_44
  have c_46 : M35.2.1 0 12 = (M.2.1 0 12) := (F_n F33 (show ¬ (0 = 77 ∧ 12 = 2 ∨ 94 ≤ 0 ∧ 0 ≤ 98) by decide) (F_n F19 (show ¬ (11 ≤ 0 ∧ 0 ≤ 16 ∨ 18 ≤ 0 ∧ 0 ≤ 48 ∨ 67 ≤ 0 ∧ 0 ≤ 76) by decide) rfl))
  have t_47 : (M35.2.1 0 12).toInt = (M.2.1 0 12).toInt := congrArg Int32.toInt c_46
  have c_48 : M35.2.1 77 28 = (M.2.1 77 28) := (F_n F33 (show ¬ (77 = 77 ∧ 28 = 2 ∨ 94 ≤ 77 ∧ 77 ≤ 98) by decide) (F_n F19 (show ¬ (11 ≤ 77 ∧ 77 ≤ 16 ∨ 18 ≤ 77 ∧ 77 ≤ 48 ∨ 67 ≤ 77 ∧ 77 ≤ 76) by decide) rfl))
  have t_49 : (M35.2.1 77 28).toInt = (M.2.1 77 28).toInt := congrArg Int32.toInt c_48
  have c_50 : M35.2.1 17 4 = (M.2.1 17 4) := (F_n F33 (show ¬ (17 = 77 ∧ 4 = 2 ∨ 94 ≤ 17 ∧ 17 ≤ 98) by decide) (F_n F19 (show ¬ (11 ≤ 17 ∧ 17 ≤ 16 ∨ 18 ≤ 17 ∧ 17 ≤ 48 ∨ 67 ≤ 17 ∧ 17 ≤ 76) by decide) rfl))
  have t_51 : (M35.2.1 17 4).toInt = (M.2.1 17 4).toInt := congrArg Int32.toInt c_50
  have c_52 : M35.2.1 77 41 = (M.2.1 77 41) := (F_n F33 (show ¬ (77 = 77 ∧ 41 = 2 ∨ 94 ≤ 77 ∧ 77 ≤ 98) by decide) (F_n F19 (show ¬ (11 ≤ 77 ∧ 77 ≤ 16 ∨ 18 ≤ 77 ∧ 77 ≤ 48 ∨ 67 ≤ 77 ∧ 77 ≤ 76) by decide) rfl))
  have t_53 : (M35.2.1 77 41).toInt = (M.2.1 77 41).toInt := congrArg Int32.toInt c_52
  have c_54 : M35.2.1 6 0 = (M.2.1 6 0) := (F_n F33 (show ¬ (6 = 77 ∧ 0 = 2 ∨ 94 ≤ 6 ∧ 6 ≤ 98) by decide) (F_n F19 (show ¬ (11 ≤ 6 ∧ 6 ≤ 16 ∨ 18 ≤ 6 ∧ 6 ≤ 48 ∨ 67 ≤ 6 ∧ 6 ≤ 76) by decide) rfl))
  have t_55 : (M35.2.1 6 0).toInt = (M.2.1 6 0).toInt := congrArg Int32.toInt c_54
  have c_56 : M35.2.1 77 29 = (M.2.1 77 29) := (F_n F33 (show ¬ (77 = 77 ∧ 29 = 2 ∨ 94 ≤ 77 ∧ 77 ≤ 98) by decide) (F_n F19 (show ¬ (11 ≤ 77 ∧ 77 ≤ 16 ∨ 18 ≤ 77 ∧ 77 ≤ 48 ∨ 67 ≤ 77 ∧ 77 ≤ 76) by decide) rfl))
  have t_57 : (M35.2.1 77 29).toInt = (M.2.1 77 29).toInt := congrArg Int32.toInt c_56
  have j_58 := (PI_f (tg_439 F33) p_21)
  have j_59 := (NI_f (tg_440 F33) p_22)
  have j_60 := (QI_f (tg_441 F33) p_23)
  have j_61 := (PQE_r F33.2.1 (PQE_r F19.2.1 jPQE))
  have j_62 := (FA_f (tg_442 F33) (FA_f (tg_443 F19) jFA))
  have j_63 := (WC_f (tg_444 F33) (WC_f (tg_445 F19) jWC))
  have j_64 := (NJ_f (tg_446 F33) j_31)
  have j_65 := (PS_f (tg_447 F33) (PS_f (tg_448 F19) jPS))
  have j_66 := (KQ_f (tg_449 F33) (KQ_f (tg_450 F19) jKQ))
  have j_67 := (TP_f (tg_451 F33) (TP_f (tg_452 F19) jTP))
  have j_68 := (W9_f (tg_453 F33) (W9_f (tg_454 F19) jW9))
  have j_69 := (AN_F F33 tg_501 (AN_F F19 tg_502 jAN))
  have j_70 := (NE_r F33.2.1 (NE_r F19.2.1 jNE))
  have j_71 := (W8_f (tg_455 F33) (W8_f (tg_456 F19) jW8))
  exact h M35 (u5) (u6) ⟨⟨⟨⟨⟨⟨⟨⟨hG34, ⟨j_58, j_59, j_60, j_61⟩, ⟨j_62, j_63, j_64, j_65, j_66⟩, by omega, by omega⟩, j_67, j_68⟩, j_70, by omega⟩, AN_a j_69⟩, by omega⟩, j_71⟩, by omega⟩, j_69⟩ (by omega) (by omega)
set_option maxRecDepth 4000 in
set_option maxHeartbeats 0 in
theorem LW_25 {X : mm_X} {d L : Nat} {M : mm_M} {Q : Option Value → mm_M → Prop} {i : Int32} {u5 u6 : Value} (hX : g_X X) (hW : g_W X) (hW2 : g_W2 X) (hL : (X 0).1 = L) (h3 : L ≤ 3072) (hd : 40 ≤ d) (hi : 0 ≤ i.toInt) (hi2 : i.toInt + 6 ≤ (L : Int)) (H : LI9 M) (h : ∀ (M1 : mm_M) (v5 v6 : Value), LI9 M1 → M1.1.2.1 ≤ M.1.2.1 + 1 → M1.1.2.2.1 ≤ M.1.2.2.1 + 6 → mm_T X d 0 1313 [.ref mm_ext, .ref 0, .ref 77, .ref 125, .int i, v5, v6] [] M1 Q) : mm_T X d 0 1092 [.ref mm_ext, .ref 0, .ref 77, .ref 125, .int i, u5, u6] [] M Q := by
  obtain ⟨⟨⟨⟨⟨⟨⟨⟨hG, ⟨jPI, jNI, jQI, jPQE⟩, ⟨jFA, jWC, jNJ, jPS, jKQ⟩, jJ, jE⟩, jTP, jW9⟩, jNE, jCC⟩, -⟩, jOV⟩, jW8⟩, jNN⟩, jAN⟩ := H
  have b_1 := g_b hG (a := 77) (i := 7) (lo := 0) (hi := 500) rfl rfl
  have b_2 := g_b hG (a := 77) (i := 6) (lo := 0) (hi := 500) rfl rfl
  have b_3 := g_b hG (a := 1) (i := 1) (lo := 0) (hi := 500) rfl rfl
  have b_4 := g_b hG (a := 77) (i := 1) (lo := 0) (hi := 500) rfl rfl
  have b_5 := g_b hG (a := 0) (i := 12) (lo := 0) (hi := 30) rfl rfl
  have b_6 := g_b hG (a := 77) (i := 28) (lo := 0) (hi := 30) rfl rfl
  have b_7 := g_b hG (a := 6) (i := 0) (lo := 0) (hi := 150) rfl rfl
  have b_8 := g_b hG (a := 77) (i := 29) (lo := 0) (hi := 150) rfl rfl
  refine to_an (pc := 1092) rw_0_1092 rfl (to_an (pc := 1093) rw_0_1093 rfl (to_i (pc := 1094) rw_0_1094 rfl (to_c (pc := 1096) rw_0_1096 (x := (1 : Int32)) rfl rfl (s_add (pc := 1097) rw_0_1097 (A := i.toInt) (B := 1) rfl rfl (by omega) (fun v9 e10 => s_x0 (pc := 1098) rw_0_1098 hL (A := v9.toInt) rfl (by omega) (by omega) (fun v11 e12 => to_an (pc := 1099) rw_0_1099 rfl (to_i (pc := 1100) rw_0_1100 rfl (to_c (pc := 1102) rw_0_1102 (x := (2 : Int32)) rfl rfl (s_add (pc := 1103) rw_0_1103 (A := i.toInt) (B := 2) rfl rfl (by omega) (fun v13 e14 => s_x0 (pc := 1104) rw_0_1104 hL (A := v13.toInt) rfl (by omega) (by omega) (fun v15 e16 => s_v (pc := 1105) rw_0_1105 (dp0 hd (by decide)) (ls0 := [.ref 0, .int v11, .int v15]) rfl (Nat.le_of_ble_eq_true rfl) (Nat.le_of_ble_eq_true rfl) rfl (to_rc rfl rfl rfl (g_o hG rfl)) rfl ?_)))))))))))
  obtain ⟨pz17, pzz17, qz17, qzz17, hpz17, hpzz17, hqz17, hqzz17, hpqz17⟩ := id jPQE
  refine C_134 hX (dp1 hd (by decide)) hG hpz17 hpzz17 hqz17 hqzz17 hpqz17 jNI jPI jQI (n := v11) (w := v15) (p := pz17) (pz := pzz17) (q := qz17) (qz := qzz17) (fun r18 M24 hG20 F19 p_21 p_22 p_23 => ?_)
  have n_25 : M24.1.2.1 = M.1.2.1 ∧ M24.1.2.2.1 = M.1.2.2.1 := by rw [F19.1]; exact ⟨rfl, rfl⟩
  refine to_popi (pc := 1108) rw_0_1108 (to_an (pc := 1109) rw_0_1109 rfl (to_an (pc := 1110) rw_0_1110 rfl (to_i (pc := 1111) rw_0_1111 rfl (to_c (pc := 1113) rw_0_1113 (x := (1 : Int32)) rfl rfl (s_addk (pc := 1114) rw_0_1114 (A := i.toInt) (B := 1) rfl rfl (by omega) (v := v9) e10 (s_x0k (pc := 1115) rw_0_1115 hL (A := v9.toInt) rfl (by omega) (by omega) (v := v11) e12 (to_an (pc := 1116) rw_0_1116 rfl (to_i (pc := 1117) rw_0_1117 rfl (to_c (pc := 1119) rw_0_1119 (x := (2 : Int32)) rfl rfl (s_addk (pc := 1120) rw_0_1120 (A := i.toInt) (B := 2) rfl rfl (by omega) (v := v13) e14 (s_x0k (pc := 1121) rw_0_1121 hL (A := v13.toInt) rfl (by omega) (by omega) (v := v15) e16 ?_)))))))))))
  refine s_v (pc := 1122) rw_0_1122 (dp0 hd (by decide)) (ls0 := [.ref 77, .int v11, .int v15, .null, .null, .null, .null, .null, .null, .null, .null, .null, .null, .null]) rfl (Nat.le_of_ble_eq_true rfl) (Nat.le_of_ble_eq_true rfl) rfl (to_rc rfl rfl rfl (g_o hG20 rfl)) rfl ?_
  have j_31 := (NJ_f (tg_438 F19) jNJ)
  have j_32 := (FA_f (tg_443 F19) jFA)
  have j_33 := (WC_f (tg_445 F19) jWC)
  refine C_237 hX (dp1 hd (by decide)) hG20 j_31 j_32 j_33 (n := v11) (w := v15) (fun r34 M37 hG36 F35 => ?_)
  have n_38 : M37.1.2.1 = M24.1.2.1 ∧ M37.1.2.2.1 = M24.1.2.2.1 := by rw [F35.1]; exact ⟨rfl, rfl⟩
  refine to_popi (pc := 1125) rw_0_1125 (to_go (pc := 1126) rw_0_1126 ?_)
  have c_40 : M37.2.1 77 7 = (M.2.1 77 7) := (F_n F35 (show ¬ (77 = 77 ∧ 7 = 2 ∨ 94 ≤ 77 ∧ 77 ≤ 98 ∨ 77 = 118) by decide) (F_n F19 (show ¬ (11 ≤ 77 ∧ 77 ≤ 16 ∨ 18 ≤ 77 ∧ 77 ≤ 48 ∨ 67 ≤ 77 ∧ 77 ≤ 76) by decide) rfl))
  have t_41 : (M37.2.1 77 7).toInt = (M.2.1 77 7).toInt := congrArg Int32.toInt c_40
  have c_42 : M37.2.1 77 6 = (M.2.1 77 6) := (F_n F35 (show ¬ (77 = 77 ∧ 6 = 2 ∨ 94 ≤ 77 ∧ 77 ≤ 98 ∨ 77 = 118) by decide) (F_n F19 (show ¬ (11 ≤ 77 ∧ 77 ≤ 16 ∨ 18 ≤ 77 ∧ 77 ≤ 48 ∨ 67 ≤ 77 ∧ 77 ≤ 76) by decide) rfl))
  have t_43 : (M37.2.1 77 6).toInt = (M.2.1 77 6).toInt := congrArg Int32.toInt c_42
  have c_44 : M37.2.1 1 1 = (M.2.1 1 1) := (F_n F35 (show ¬ (1 = 77 ∧ 1 = 2 ∨ 94 ≤ 1 ∧ 1 ≤ 98 ∨ 1 = 118) by decide) (F_n F19 (show ¬ (11 ≤ 1 ∧ 1 ≤ 16 ∨ 18 ≤ 1 ∧ 1 ≤ 48 ∨ 67 ≤ 1 ∧ 1 ≤ 76) by decide) rfl))
  have t_45 : (M37.2.1 1 1).toInt = (M.2.1 1 1).toInt := congrArg Int32.toInt c_44
  have c_46 : M37.2.1 77 1 = (M.2.1 77 1) := (F_n F35 (show ¬ (77 = 77 ∧ 1 = 2 ∨ 94 ≤ 77 ∧ 77 ≤ 98 ∨ 77 = 118) by decide) (F_n F19 (show ¬ (11 ≤ 77 ∧ 77 ≤ 16 ∨ 18 ≤ 77 ∧ 77 ≤ 48 ∨ 67 ≤ 77 ∧ 77 ≤ 76) by decide) rfl))
  have t_47 : (M37.2.1 77 1).toInt = (M.2.1 77 1).toInt := congrArg Int32.toInt c_46
  have c_48 : M37.2.1 0 12 = (M.2.1 0 12) := (F_n F35 (show ¬ (0 = 77 ∧ 12 = 2 ∨ 94 ≤ 0 ∧ 0 ≤ 98 ∨ 0 = 118) by decide) (F_n F19 (show ¬ (11 ≤ 0 ∧ 0 ≤ 16 ∨ 18 ≤ 0 ∧ 0 ≤ 48 ∨ 67 ≤ 0 ∧ 0 ≤ 76) by decide) rfl))
  have t_49 : (M37.2.1 0 12).toInt = (M.2.1 0 12).toInt := congrArg Int32.toInt c_48
  have c_50 : M37.2.1 77 28 = (M.2.1 77 28) := (F_n F35 (show ¬ (77 = 77 ∧ 28 = 2 ∨ 94 ≤ 77 ∧ 77 ≤ 98 ∨ 77 = 118) by decide) (F_n F19 (show ¬ (11 ≤ 77 ∧ 77 ≤ 16 ∨ 18 ≤ 77 ∧ 77 ≤ 48 ∨ 67 ≤ 77 ∧ 77 ≤ 76) by decide) rfl))
  have t_51 : (M37.2.1 77 28).toInt = (M.2.1 77 28).toInt := congrArg Int32.toInt c_50
  have c_52 : M37.2.1 17 4 = (M.2.1 17 4) := (F_n F35 (show ¬ (17 = 77 ∧ 4 = 2 ∨ 94 ≤ 17 ∧ 17 ≤ 98 ∨ 17 = 118) by decide) (F_n F19 (show ¬ (11 ≤ 17 ∧ 17 ≤ 16 ∨ 18 ≤ 17 ∧ 17 ≤ 48 ∨ 67 ≤ 17 ∧ 17 ≤ 76) by decide) rfl))
  have t_53 : (M37.2.1 17 4).toInt = (M.2.1 17 4).toInt := congrArg Int32.toInt c_52
  have c_54 : M37.2.1 77 41 = (M.2.1 77 41) := (F_n F35 (show ¬ (77 = 77 ∧ 41 = 2 ∨ 94 ≤ 77 ∧ 77 ≤ 98 ∨ 77 = 118) by decide) (F_n F19 (show ¬ (11 ≤ 77 ∧ 77 ≤ 16 ∨ 18 ≤ 77 ∧ 77 ≤ 48 ∨ 67 ≤ 77 ∧ 77 ≤ 76) by decide) rfl))
  have t_55 : (M37.2.1 77 41).toInt = (M.2.1 77 41).toInt := congrArg Int32.toInt c_54
  have c_56 : M37.2.1 6 0 = (M.2.1 6 0) := (F_n F35 (show ¬ (6 = 77 ∧ 0 = 2 ∨ 94 ≤ 6 ∧ 6 ≤ 98 ∨ 6 = 118) by decide) (F_n F19 (show ¬ (11 ≤ 6 ∧ 6 ≤ 16 ∨ 18 ≤ 6 ∧ 6 ≤ 48 ∨ 67 ≤ 6 ∧ 6 ≤ 76) by decide) rfl))
  have t_57 : (M37.2.1 6 0).toInt = (M.2.1 6 0).toInt := congrArg Int32.toInt c_56
  have c_58 : M37.2.1 77 29 = (M.2.1 77 29) := (F_n F35 (show ¬ (77 = 77 ∧ 29 = 2 ∨ 94 ≤ 77 ∧ 77 ≤ 98 ∨ 77 = 118) by decide) (F_n F19 (show ¬ (11 ≤ 77 ∧ 77 ≤ 16 ∨ 18 ≤ 77 ∧ 77 ≤ 48 ∨ 67 ≤ 77 ∧ 77 ≤ 76) by decide) rfl))
  have t_59 : (M37.2.1 77 29).toInt = (M.2.1 77 29).toInt := congrArg Int32.toInt c_58
  have j_60 := (PI_f (tg_562 F35) p_21)
  have j_61 := (NI_f (tg_563 F35) p_22)
  have j_62 := (QI_f (tg_564 F35) p_23)
  have j_63 := (PQE_r F35.2.1 (PQE_r F19.2.1 jPQE))
  have j_64 := (FA_f (tg_565 F35) j_32)
  have j_65 := (WC_f (tg_566 F35) j_33)
  have j_66 := (NJ_f (tg_567 F35) j_31)
  have j_67 := (PS_f (tg_568 F35) (PS_f (tg_448 F19) jPS))
  have j_68 := (KQ_f (tg_569 F35) (KQ_f (tg_450 F19) jKQ))
  have j_69 := (TP_f (tg_570 F35) (TP_f (tg_452 F19) jTP))
  have j_70 := (W9_f (tg_571 F35) (W9_f (tg_454 F19) jW9))
  have j_71 := (AN_F F35 tg_612 (AN_F F19 tg_502 jAN))
  have j_72 := (NE_r F35.2.1 (NE_r F19.2.1 jNE))
  have j_73 := (W8_f (tg_572 F35) (W8_f (tg_456 F19) jW8))
  exact h M37 (u5) (u6) ⟨⟨⟨⟨⟨⟨⟨⟨hG36, ⟨j_60, j_61, j_62, j_63⟩, ⟨j_64, j_65, j_66, j_67, j_68⟩, by omega, by omega⟩, j_69, j_70⟩, j_72, by omega⟩, AN_a j_71⟩, by omega⟩, j_73⟩, by omega⟩, j_71⟩ (by omega) (by omega)
set_option maxRecDepth 4000 in
set_option maxHeartbeats 0 in
theorem LW_26 {X : mm_X} {d L : Nat} {M : mm_M} {Q : Option Value → mm_M → Prop} {i : Int32} {u5 u6 : Value} (hX : g_X X) (hW : g_W X) (hW2 : g_W2 X) (hL : (X 0).1 = L) (h3 : L ≤ 3072) (hd : 40 ≤ d) (hi : 0 ≤ i.toInt) (hi2 : i.toInt + 6 ≤ (L : Int)) (H : LI9 M) (h : ∀ (M1 : mm_M) (v5 v6 : Value), LI9 M1 → M1.1.2.1 ≤ M.1.2.1 + 1 → M1.1.2.2.1 ≤ M.1.2.2.1 + 6 → mm_T X d 0 1313 [.ref mm_ext, .ref 0, .ref 77, .ref 125, .int i, v5, v6] [] M1 Q) : mm_T X d 0 1129 [.ref mm_ext, .ref 0, .ref 77, .ref 125, .int i, u5, u6] [] M Q := by
  obtain ⟨⟨⟨⟨⟨⟨⟨⟨hG, ⟨jPI, jNI, jQI, jPQE⟩, ⟨jFA, jWC, jNJ, jPS, jKQ⟩, jJ, jE⟩, jTP, jW9⟩, jNE, jCC⟩, -⟩, jOV⟩, jW8⟩, jNN⟩, jAN⟩ := H
  have b_1 := g_b hG (a := 77) (i := 7) (lo := 0) (hi := 500) rfl rfl
  have b_2 := g_b hG (a := 77) (i := 6) (lo := 0) (hi := 500) rfl rfl
  have b_3 := g_b hG (a := 1) (i := 1) (lo := 0) (hi := 500) rfl rfl
  have b_4 := g_b hG (a := 77) (i := 1) (lo := 0) (hi := 500) rfl rfl
  have b_5 := g_b hG (a := 0) (i := 12) (lo := 0) (hi := 30) rfl rfl
  have b_6 := g_b hG (a := 77) (i := 28) (lo := 0) (hi := 30) rfl rfl
  have b_7 := g_b hG (a := 6) (i := 0) (lo := 0) (hi := 150) rfl rfl
  have b_8 := g_b hG (a := 77) (i := 29) (lo := 0) (hi := 150) rfl rfl
  refine to_an (pc := 1129) rw_0_1129 rfl (to_an (pc := 1130) rw_0_1130 rfl (to_i (pc := 1131) rw_0_1131 rfl (to_c (pc := 1133) rw_0_1133 (x := (1 : Int32)) rfl rfl (s_add (pc := 1134) rw_0_1134 (A := i.toInt) (B := 1) rfl rfl (by omega) (fun v9 e10 => s_x0 (pc := 1135) rw_0_1135 hL (A := v9.toInt) rfl (by omega) (by omega) (fun v11 e12 => to_an (pc := 1136) rw_0_1136 rfl (to_i (pc := 1137) rw_0_1137 rfl (to_c (pc := 1139) rw_0_1139 (x := (2 : Int32)) rfl rfl (s_add (pc := 1140) rw_0_1140 (A := i.toInt) (B := 2) rfl rfl (by omega) (fun v13 e14 => s_x0 (pc := 1141) rw_0_1141 hL (A := v13.toInt) rfl (by omega) (by omega) (fun v15 e16 => to_an (pc := 1142) rw_0_1142 rfl ?_)))))))))))
  refine to_i (pc := 1143) rw_0_1143 rfl (to_c (pc := 1145) rw_0_1145 (x := (3 : Int32)) rfl rfl (s_add (pc := 1146) rw_0_1146 (A := i.toInt) (B := 3) rfl rfl (by omega) (fun v17 e18 => s_x0 (pc := 1147) rw_0_1147 hL (A := v17.toInt) rfl (by omega) (by omega) (fun v19 e20 => to_an (pc := 1148) rw_0_1148 rfl (to_i (pc := 1149) rw_0_1149 rfl (to_c (pc := 1151) rw_0_1151 (x := (4 : Int32)) rfl rfl (s_add (pc := 1152) rw_0_1152 (A := i.toInt) (B := 4) rfl rfl (by omega) (fun v21 e22 => s_x0 (pc := 1153) rw_0_1153 hL (A := v21.toInt) rfl (by omega) (by omega) (fun v23 e24 => to_an (pc := 1154) rw_0_1154 rfl (to_i (pc := 1155) rw_0_1155 rfl (to_c (pc := 1157) rw_0_1157 (x := (5 : Int32)) rfl rfl ?_)))))))))))
  refine s_add (pc := 1158) rw_0_1158 (A := i.toInt) (B := 5) rfl rfl (by omega) (fun v25 e26 => s_x0 (pc := 1159) rw_0_1159 hL (A := v25.toInt) rfl (by omega) (by omega) (fun v27 e28 => s_v (pc := 1160) rw_0_1160 (dp0 hd (by decide)) (ls0 := [.ref 0, .int v11, .int v15, .int v19, .int v23, .int v27]) rfl (Nat.le_of_ble_eq_true rfl) (Nat.le_of_ble_eq_true rfl) rfl (to_rc rfl rfl rfl (g_o hG rfl)) rfl ?_))
  obtain ⟨pz29, pzz29, qz29, qzz29, hpz29, hpzz29, hqz29, hqzz29, hpqz29⟩ := id jPQE
  refine C_135 hX (dp1 hd (by decide)) hG hpz29 hpzz29 hqz29 hqzz29 hpqz29 jNI jPI jQI (n := v11) (c := v15) (f := v19) (t := v23) (w := v27) (p := pz29) (pz := pzz29) (q := qz29) (qz := qzz29) (fun r30 M36 hG32 F31 p_33 p_34 p_35 => ?_)
  have n_37 : M36.1.2.1 = M.1.2.1 ∧ M36.1.2.2.1 = M.1.2.2.1 := by rw [F31.1]; exact ⟨rfl, rfl⟩
  refine to_popi (pc := 1163) rw_0_1163 (to_an (pc := 1164) rw_0_1164 rfl (to_an (pc := 1165) rw_0_1165 rfl (to_i (pc := 1166) rw_0_1166 rfl (to_c (pc := 1168) rw_0_1168 (x := (1 : Int32)) rfl rfl (s_addk (pc := 1169) rw_0_1169 (A := i.toInt) (B := 1) rfl rfl (by omega) (v := v9) e10 (s_x0k (pc := 1170) rw_0_1170 hL (A := v9.toInt) rfl (by omega) (by omega) (v := v11) e12 (to_an (pc := 1171) rw_0_1171 rfl (to_i (pc := 1172) rw_0_1172 rfl (to_c (pc := 1174) rw_0_1174 (x := (2 : Int32)) rfl rfl (s_addk (pc := 1175) rw_0_1175 (A := i.toInt) (B := 2) rfl rfl (by omega) (v := v13) e14 (s_x0k (pc := 1176) rw_0_1176 hL (A := v13.toInt) rfl (by omega) (by omega) (v := v15) e16 ?_)))))))))))
  refine to_an (pc := 1177) rw_0_1177 rfl (to_i (pc := 1178) rw_0_1178 rfl (to_c (pc := 1180) rw_0_1180 (x := (3 : Int32)) rfl rfl (s_addk (pc := 1181) rw_0_1181 (A := i.toInt) (B := 3) rfl rfl (by omega) (v := v17) e18 (s_x0k (pc := 1182) rw_0_1182 hL (A := v17.toInt) rfl (by omega) (by omega) (v := v19) e20 (to_an (pc := 1183) rw_0_1183 rfl (to_i (pc := 1184) rw_0_1184 rfl (to_c (pc := 1186) rw_0_1186 (x := (4 : Int32)) rfl rfl (s_addk (pc := 1187) rw_0_1187 (A := i.toInt) (B := 4) rfl rfl (by omega) (v := v21) e22 (s_x0k (pc := 1188) rw_0_1188 hL (A := v21.toInt) rfl (by omega) (by omega) (v := v23) e24 (to_an (pc := 1189) rw_0_1189 rfl (to_i (pc := 1190) rw_0_1190 rfl ?_)))))))))))
  refine to_c (pc := 1192) rw_0_1192 (x := (5 : Int32)) rfl rfl (s_addk (pc := 1193) rw_0_1193 (A := i.toInt) (B := 5) rfl rfl (by omega) (v := v25) e26 (s_x0k (pc := 1194) rw_0_1194 hL (A := v25.toInt) rfl (by omega) (by omega) (v := v27) e28 (s_v (pc := 1195) rw_0_1195 (dp0 hd (by decide)) (ls0 := [.ref 77, .int v11, .int v15, .int v19, .int v23, .int v27]) rfl (Nat.le_of_ble_eq_true rfl) (Nat.le_of_ble_eq_true rfl) rfl (to_rc rfl rfl rfl (g_o hG32 rfl)) rfl ?_)))
  have j_49 := (NJ_f (tg_438 F31) jNJ)
  have j_50 := (FA_f (tg_443 F31) jFA)
  refine C_238 hX (dp1 hd (by decide)) hG32 j_49 j_50 (n := v11) (c := v15) (f := v19) (t := v23) (w := v27) (fun r51 M54 hG53 F52 => ?_)
  have n_55 : M54.1.2.1 = M36.1.2.1 ∧ M54.1.2.2.1 = M36.1.2.2.1 := by rw [F52.1]; exact ⟨rfl, rfl⟩
  refine to_popi (pc := 1198) rw_0_1198 (to_go (pc := 1199) rw_0_1199 ?_)
  have c_57 : M54.2.1 77 7 = (M.2.1 77 7) := (F_n F52 (show ¬ (77 = 77 ∧ 7 = 2 ∨ 94 ≤ 77 ∧ 77 ≤ 98 ∨ 77 = 119) by decide) (F_n F31 (show ¬ (11 ≤ 77 ∧ 77 ≤ 16 ∨ 18 ≤ 77 ∧ 77 ≤ 48 ∨ 67 ≤ 77 ∧ 77 ≤ 76) by decide) rfl))
  have t_58 : (M54.2.1 77 7).toInt = (M.2.1 77 7).toInt := congrArg Int32.toInt c_57
  have c_59 : M54.2.1 77 6 = (M.2.1 77 6) := (F_n F52 (show ¬ (77 = 77 ∧ 6 = 2 ∨ 94 ≤ 77 ∧ 77 ≤ 98 ∨ 77 = 119) by decide) (F_n F31 (show ¬ (11 ≤ 77 ∧ 77 ≤ 16 ∨ 18 ≤ 77 ∧ 77 ≤ 48 ∨ 67 ≤ 77 ∧ 77 ≤ 76) by decide) rfl))
  have t_60 : (M54.2.1 77 6).toInt = (M.2.1 77 6).toInt := congrArg Int32.toInt c_59
  have c_61 : M54.2.1 1 1 = (M.2.1 1 1) := (F_n F52 (show ¬ (1 = 77 ∧ 1 = 2 ∨ 94 ≤ 1 ∧ 1 ≤ 98 ∨ 1 = 119) by decide) (F_n F31 (show ¬ (11 ≤ 1 ∧ 1 ≤ 16 ∨ 18 ≤ 1 ∧ 1 ≤ 48 ∨ 67 ≤ 1 ∧ 1 ≤ 76) by decide) rfl))
  have t_62 : (M54.2.1 1 1).toInt = (M.2.1 1 1).toInt := congrArg Int32.toInt c_61
  have c_63 : M54.2.1 77 1 = (M.2.1 77 1) := (F_n F52 (show ¬ (77 = 77 ∧ 1 = 2 ∨ 94 ≤ 77 ∧ 77 ≤ 98 ∨ 77 = 119) by decide) (F_n F31 (show ¬ (11 ≤ 77 ∧ 77 ≤ 16 ∨ 18 ≤ 77 ∧ 77 ≤ 48 ∨ 67 ≤ 77 ∧ 77 ≤ 76) by decide) rfl))
  have t_64 : (M54.2.1 77 1).toInt = (M.2.1 77 1).toInt := congrArg Int32.toInt c_63
  have c_65 : M54.2.1 0 12 = (M.2.1 0 12) := (F_n F52 (show ¬ (0 = 77 ∧ 12 = 2 ∨ 94 ≤ 0 ∧ 0 ≤ 98 ∨ 0 = 119) by decide) (F_n F31 (show ¬ (11 ≤ 0 ∧ 0 ≤ 16 ∨ 18 ≤ 0 ∧ 0 ≤ 48 ∨ 67 ≤ 0 ∧ 0 ≤ 76) by decide) rfl))
  have t_66 : (M54.2.1 0 12).toInt = (M.2.1 0 12).toInt := congrArg Int32.toInt c_65
  have c_67 : M54.2.1 77 28 = (M.2.1 77 28) := (F_n F52 (show ¬ (77 = 77 ∧ 28 = 2 ∨ 94 ≤ 77 ∧ 77 ≤ 98 ∨ 77 = 119) by decide) (F_n F31 (show ¬ (11 ≤ 77 ∧ 77 ≤ 16 ∨ 18 ≤ 77 ∧ 77 ≤ 48 ∨ 67 ≤ 77 ∧ 77 ≤ 76) by decide) rfl))
  have t_68 : (M54.2.1 77 28).toInt = (M.2.1 77 28).toInt := congrArg Int32.toInt c_67
  have c_69 : M54.2.1 17 4 = (M.2.1 17 4) := (F_n F52 (show ¬ (17 = 77 ∧ 4 = 2 ∨ 94 ≤ 17 ∧ 17 ≤ 98 ∨ 17 = 119) by decide) (F_n F31 (show ¬ (11 ≤ 17 ∧ 17 ≤ 16 ∨ 18 ≤ 17 ∧ 17 ≤ 48 ∨ 67 ≤ 17 ∧ 17 ≤ 76) by decide) rfl))
  have t_70 : (M54.2.1 17 4).toInt = (M.2.1 17 4).toInt := congrArg Int32.toInt c_69
  have c_71 : M54.2.1 77 41 = (M.2.1 77 41) := (F_n F52 (show ¬ (77 = 77 ∧ 41 = 2 ∨ 94 ≤ 77 ∧ 77 ≤ 98 ∨ 77 = 119) by decide) (F_n F31 (show ¬ (11 ≤ 77 ∧ 77 ≤ 16 ∨ 18 ≤ 77 ∧ 77 ≤ 48 ∨ 67 ≤ 77 ∧ 77 ≤ 76) by decide) rfl))
  have t_72 : (M54.2.1 77 41).toInt = (M.2.1 77 41).toInt := congrArg Int32.toInt c_71
  have c_73 : M54.2.1 6 0 = (M.2.1 6 0) := (F_n F52 (show ¬ (6 = 77 ∧ 0 = 2 ∨ 94 ≤ 6 ∧ 6 ≤ 98 ∨ 6 = 119) by decide) (F_n F31 (show ¬ (11 ≤ 6 ∧ 6 ≤ 16 ∨ 18 ≤ 6 ∧ 6 ≤ 48 ∨ 67 ≤ 6 ∧ 6 ≤ 76) by decide) rfl))
  have t_74 : (M54.2.1 6 0).toInt = (M.2.1 6 0).toInt := congrArg Int32.toInt c_73
  have c_75 : M54.2.1 77 29 = (M.2.1 77 29) := (F_n F52 (show ¬ (77 = 77 ∧ 29 = 2 ∨ 94 ≤ 77 ∧ 77 ≤ 98 ∨ 77 = 119) by decide) (F_n F31 (show ¬ (11 ≤ 77 ∧ 77 ≤ 16 ∨ 18 ≤ 77 ∧ 77 ≤ 48 ∨ 67 ≤ 77 ∧ 77 ≤ 76) by decide) rfl))
  have t_76 : (M54.2.1 77 29).toInt = (M.2.1 77 29).toInt := congrArg Int32.toInt c_75
  have j_77 := (PI_f (tg_573 F52) p_33)
  have j_78 := (NI_f (tg_574 F52) p_34)
  have j_79 := (QI_f (tg_575 F52) p_35)
  have j_80 := (PQE_r F52.2.1 (PQE_r F31.2.1 jPQE))
  have j_81 := (FA_f (tg_576 F52) j_50)
  have j_82 := (WC_f (tg_577 F52) (WC_f (tg_445 F31) jWC))
  have j_83 := (NJ_f (tg_578 F52) j_49)
  have j_84 := (PS_f (tg_579 F52) (PS_f (tg_448 F31) jPS))
  have j_85 := (KQ_f (tg_580 F52) (KQ_f (tg_450 F31) jKQ))
  have j_86 := (TP_f (tg_581 F52) (TP_f (tg_452 F31) jTP))
  have j_87 := (W9_f (tg_582 F52) (W9_f (tg_454 F31) jW9))
  have j_88 := (AN_F F52 tg_613 (AN_F F31 tg_502 jAN))
  have j_89 := (NE_r F52.2.1 (NE_r F31.2.1 jNE))
  have j_90 := (W8_f (tg_583 F52) (W8_f (tg_456 F31) jW8))
  exact h M54 (u5) (u6) ⟨⟨⟨⟨⟨⟨⟨⟨hG53, ⟨j_77, j_78, j_79, j_80⟩, ⟨j_81, j_82, j_83, j_84, j_85⟩, by omega, by omega⟩, j_86, j_87⟩, j_89, by omega⟩, AN_a j_88⟩, by omega⟩, j_90⟩, by omega⟩, j_88⟩ (by omega) (by omega)
set_option maxRecDepth 4000 in
set_option maxHeartbeats 0 in
theorem LW_27 {X : mm_X} {d L : Nat} {M : mm_M} {Q : Option Value → mm_M → Prop} {i : Int32} {u5 u6 : Value} (hX : g_X X) (hW : g_W X) (hW2 : g_W2 X) (hL : (X 0).1 = L) (h3 : L ≤ 3072) (hd : 40 ≤ d) (hi : 0 ≤ i.toInt) (hi2 : i.toInt + 6 ≤ (L : Int)) (H : LI9 M) (h : ∀ (M1 : mm_M) (v5 v6 : Value), LI9 M1 → M1.1.2.1 ≤ M.1.2.1 + 1 → M1.1.2.2.1 ≤ M.1.2.2.1 + 6 → mm_T X d 0 1313 [.ref mm_ext, .ref 0, .ref 77, .ref 125, .int i, v5, v6] [] M1 Q) : mm_T X d 0 1202 [.ref mm_ext, .ref 0, .ref 77, .ref 125, .int i, u5, u6] [] M Q := by
  obtain ⟨⟨⟨⟨⟨⟨⟨⟨hG, ⟨jPI, jNI, jQI, jPQE⟩, ⟨jFA, jWC, jNJ, jPS, jKQ⟩, jJ, jE⟩, jTP, jW9⟩, jNE, jCC⟩, -⟩, jOV⟩, jW8⟩, jNN⟩, jAN⟩ := H
  have b_1 := g_b hG (a := 77) (i := 7) (lo := 0) (hi := 500) rfl rfl
  have b_2 := g_b hG (a := 77) (i := 6) (lo := 0) (hi := 500) rfl rfl
  have b_3 := g_b hG (a := 1) (i := 1) (lo := 0) (hi := 500) rfl rfl
  have b_4 := g_b hG (a := 77) (i := 1) (lo := 0) (hi := 500) rfl rfl
  have b_5 := g_b hG (a := 0) (i := 12) (lo := 0) (hi := 30) rfl rfl
  have b_6 := g_b hG (a := 77) (i := 28) (lo := 0) (hi := 30) rfl rfl
  have b_7 := g_b hG (a := 6) (i := 0) (lo := 0) (hi := 150) rfl rfl
  have b_8 := g_b hG (a := 77) (i := 29) (lo := 0) (hi := 150) rfl rfl
  refine to_an (pc := 1202) rw_0_1202 rfl (to_an (pc := 1203) rw_0_1203 rfl (to_i (pc := 1204) rw_0_1204 rfl (to_c (pc := 1206) rw_0_1206 (x := (1 : Int32)) rfl rfl (s_add (pc := 1207) rw_0_1207 (A := i.toInt) (B := 1) rfl rfl (by omega) (fun v9 e10 => s_x0 (pc := 1208) rw_0_1208 hL (A := v9.toInt) rfl (by omega) (by omega) (fun v11 e12 => to_an (pc := 1209) rw_0_1209 rfl (to_i (pc := 1210) rw_0_1210 rfl (to_c (pc := 1212) rw_0_1212 (x := (2 : Int32)) rfl rfl (s_add (pc := 1213) rw_0_1213 (A := i.toInt) (B := 2) rfl rfl (by omega) (fun v13 e14 => s_x0 (pc := 1214) rw_0_1214 hL (A := v13.toInt) rfl (by omega) (by omega) (fun v15 e16 => s_v (pc := 1215) rw_0_1215 (dp0 hd (by decide)) (ls0 := [.ref 0, .int v11, .int v15]) rfl (Nat.le_of_ble_eq_true rfl) (Nat.le_of_ble_eq_true rfl) rfl (to_rc rfl rfl rfl (g_o hG rfl)) rfl ?_)))))))))))
  obtain ⟨pz17, pzz17, qz17, qzz17, hpz17, hpzz17, hqz17, hqzz17, hpqz17⟩ := id jPQE
  refine C_136 hX (dp1 hd (by decide)) hG hpz17 hpzz17 hqz17 hqzz17 hpqz17 jNI jPI jQI (k := v11) (f := v15) (p := pz17) (pz := pzz17) (q := qz17) (qz := qzz17) (fun r18 M24 hG20 F19 p_21 p_22 p_23 => ?_)
  have n_25 : M24.1.2.1 = M.1.2.1 ∧ M24.1.2.2.1 = M.1.2.2.1 := by rw [F19.1]; exact ⟨rfl, rfl⟩
  refine to_popi (pc := 1218) rw_0_1218 (to_an (pc := 1219) rw_0_1219 rfl (to_an (pc := 1220) rw_0_1220 rfl (to_i (pc := 1221) rw_0_1221 rfl (to_c (pc := 1223) rw_0_1223 (x := (1 : Int32)) rfl rfl (s_addk (pc := 1224) rw_0_1224 (A := i.toInt) (B := 1) rfl rfl (by omega) (v := v9) e10 (s_x0k (pc := 1225) rw_0_1225 hL (A := v9.toInt) rfl (by omega) (by omega) (v := v11) e12 (to_an (pc := 1226) rw_0_1226 rfl (to_i (pc := 1227) rw_0_1227 rfl (to_c (pc := 1229) rw_0_1229 (x := (2 : Int32)) rfl rfl (s_addk (pc := 1230) rw_0_1230 (A := i.toInt) (B := 2) rfl rfl (by omega) (v := v13) e14 (s_x0k (pc := 1231) rw_0_1231 hL (A := v13.toInt) rfl (by omega) (by omega) (v := v15) e16 ?_)))))))))))
  refine s_v (pc := 1232) rw_0_1232 (dp0 hd (by decide)) (ls0 := [.ref 77, .int v11, .int v15, .null, .null, .null]) rfl (Nat.le_of_ble_eq_true rfl) (Nat.le_of_ble_eq_true rfl) rfl (to_rc rfl rfl rfl (g_o hG20 rfl)) rfl ?_
  have j_31 := (NJ_f (tg_438 F19) jNJ)
  refine C_242 hX (dp1 hd (by decide)) hG20 j_31 (p := v11) (f := v15) (fun r32 M35 hG34 F33 => ?_)
  have n_36 : M35.1.2.1 = M24.1.2.1 ∧ M35.1.2.2.1 = M24.1.2.2.1 := by rw [F33.1]; exact ⟨rfl, rfl⟩
  refine to_popi (pc := 1235) rw_0_1235 (to_go (pc := 1236) rw_0_1236 ?_)
  have c_38 : M35.2.1 77 7 = (M.2.1 77 7) := (F_n F33 (show ¬ (77 = 77 ∧ 7 = 2 ∨ 94 ≤ 77 ∧ 77 ≤ 98 ∨ 77 = 120) by decide) (F_n F19 (show ¬ (11 ≤ 77 ∧ 77 ≤ 16 ∨ 18 ≤ 77 ∧ 77 ≤ 48 ∨ 67 ≤ 77 ∧ 77 ≤ 76) by decide) rfl))
  have t_39 : (M35.2.1 77 7).toInt = (M.2.1 77 7).toInt := congrArg Int32.toInt c_38
  have c_40 : M35.2.1 77 6 = (M.2.1 77 6) := (F_n F33 (show ¬ (77 = 77 ∧ 6 = 2 ∨ 94 ≤ 77 ∧ 77 ≤ 98 ∨ 77 = 120) by decide) (F_n F19 (show ¬ (11 ≤ 77 ∧ 77 ≤ 16 ∨ 18 ≤ 77 ∧ 77 ≤ 48 ∨ 67 ≤ 77 ∧ 77 ≤ 76) by decide) rfl))
  have t_41 : (M35.2.1 77 6).toInt = (M.2.1 77 6).toInt := congrArg Int32.toInt c_40
  have c_42 : M35.2.1 1 1 = (M.2.1 1 1) := (F_n F33 (show ¬ (1 = 77 ∧ 1 = 2 ∨ 94 ≤ 1 ∧ 1 ≤ 98 ∨ 1 = 120) by decide) (F_n F19 (show ¬ (11 ≤ 1 ∧ 1 ≤ 16 ∨ 18 ≤ 1 ∧ 1 ≤ 48 ∨ 67 ≤ 1 ∧ 1 ≤ 76) by decide) rfl))
  have t_43 : (M35.2.1 1 1).toInt = (M.2.1 1 1).toInt := congrArg Int32.toInt c_42
  have c_44 : M35.2.1 77 1 = (M.2.1 77 1) := (F_n F33 (show ¬ (77 = 77 ∧ 1 = 2 ∨ 94 ≤ 77 ∧ 77 ≤ 98 ∨ 77 = 120) by decide) (F_n F19 (show ¬ (11 ≤ 77 ∧ 77 ≤ 16 ∨ 18 ≤ 77 ∧ 77 ≤ 48 ∨ 67 ≤ 77 ∧ 77 ≤ 76) by decide) rfl))
  have t_45 : (M35.2.1 77 1).toInt = (M.2.1 77 1).toInt := congrArg Int32.toInt c_44
  have c_46 : M35.2.1 0 12 = (M.2.1 0 12) := (F_n F33 (show ¬ (0 = 77 ∧ 12 = 2 ∨ 94 ≤ 0 ∧ 0 ≤ 98 ∨ 0 = 120) by decide) (F_n F19 (show ¬ (11 ≤ 0 ∧ 0 ≤ 16 ∨ 18 ≤ 0 ∧ 0 ≤ 48 ∨ 67 ≤ 0 ∧ 0 ≤ 76) by decide) rfl))
  have t_47 : (M35.2.1 0 12).toInt = (M.2.1 0 12).toInt := congrArg Int32.toInt c_46
  have c_48 : M35.2.1 77 28 = (M.2.1 77 28) := (F_n F33 (show ¬ (77 = 77 ∧ 28 = 2 ∨ 94 ≤ 77 ∧ 77 ≤ 98 ∨ 77 = 120) by decide) (F_n F19 (show ¬ (11 ≤ 77 ∧ 77 ≤ 16 ∨ 18 ≤ 77 ∧ 77 ≤ 48 ∨ 67 ≤ 77 ∧ 77 ≤ 76) by decide) rfl))
  have t_49 : (M35.2.1 77 28).toInt = (M.2.1 77 28).toInt := congrArg Int32.toInt c_48
  have c_50 : M35.2.1 17 4 = (M.2.1 17 4) := (F_n F33 (show ¬ (17 = 77 ∧ 4 = 2 ∨ 94 ≤ 17 ∧ 17 ≤ 98 ∨ 17 = 120) by decide) (F_n F19 (show ¬ (11 ≤ 17 ∧ 17 ≤ 16 ∨ 18 ≤ 17 ∧ 17 ≤ 48 ∨ 67 ≤ 17 ∧ 17 ≤ 76) by decide) rfl))
  have t_51 : (M35.2.1 17 4).toInt = (M.2.1 17 4).toInt := congrArg Int32.toInt c_50
  have c_52 : M35.2.1 77 41 = (M.2.1 77 41) := (F_n F33 (show ¬ (77 = 77 ∧ 41 = 2 ∨ 94 ≤ 77 ∧ 77 ≤ 98 ∨ 77 = 120) by decide) (F_n F19 (show ¬ (11 ≤ 77 ∧ 77 ≤ 16 ∨ 18 ≤ 77 ∧ 77 ≤ 48 ∨ 67 ≤ 77 ∧ 77 ≤ 76) by decide) rfl))
  have t_53 : (M35.2.1 77 41).toInt = (M.2.1 77 41).toInt := congrArg Int32.toInt c_52
  have c_54 : M35.2.1 6 0 = (M.2.1 6 0) := (F_n F33 (show ¬ (6 = 77 ∧ 0 = 2 ∨ 94 ≤ 6 ∧ 6 ≤ 98 ∨ 6 = 120) by decide) (F_n F19 (show ¬ (11 ≤ 6 ∧ 6 ≤ 16 ∨ 18 ≤ 6 ∧ 6 ≤ 48 ∨ 67 ≤ 6 ∧ 6 ≤ 76) by decide) rfl))
  have t_55 : (M35.2.1 6 0).toInt = (M.2.1 6 0).toInt := congrArg Int32.toInt c_54
  have c_56 : M35.2.1 77 29 = (M.2.1 77 29) := (F_n F33 (show ¬ (77 = 77 ∧ 29 = 2 ∨ 94 ≤ 77 ∧ 77 ≤ 98 ∨ 77 = 120) by decide) (F_n F19 (show ¬ (11 ≤ 77 ∧ 77 ≤ 16 ∨ 18 ≤ 77 ∧ 77 ≤ 48 ∨ 67 ≤ 77 ∧ 77 ≤ 76) by decide) rfl))
  have t_57 : (M35.2.1 77 29).toInt = (M.2.1 77 29).toInt := congrArg Int32.toInt c_56
  have j_58 := (PI_f (tg_584 F33) p_21)
  have j_59 := (NI_f (tg_585 F33) p_22)
  have j_60 := (QI_f (tg_586 F33) p_23)
  have j_61 := (PQE_r F33.2.1 (PQE_r F19.2.1 jPQE))
  have j_62 := (FA_f (tg_587 F33) (FA_f (tg_443 F19) jFA))
  have j_63 := (WC_f (tg_588 F33) (WC_f (tg_445 F19) jWC))
  have j_64 := (NJ_f (tg_589 F33) j_31)
  have j_65 := (PS_f (tg_590 F33) (PS_f (tg_448 F19) jPS))
  have j_66 := (KQ_f (tg_591 F33) (KQ_f (tg_450 F19) jKQ))
  have j_67 := (TP_f (tg_592 F33) (TP_f (tg_452 F19) jTP))
  have j_68 := (W9_f (tg_593 F33) (W9_f (tg_454 F19) jW9))
  have j_69 := (AN_F F33 tg_614 (AN_F F19 tg_502 jAN))
  have j_70 := (NE_r F33.2.1 (NE_r F19.2.1 jNE))
  have j_71 := (W8_f (tg_594 F33) (W8_f (tg_456 F19) jW8))
  exact h M35 (u5) (u6) ⟨⟨⟨⟨⟨⟨⟨⟨hG34, ⟨j_58, j_59, j_60, j_61⟩, ⟨j_62, j_63, j_64, j_65, j_66⟩, by omega, by omega⟩, j_67, j_68⟩, j_70, by omega⟩, AN_a j_69⟩, by omega⟩, j_71⟩, by omega⟩, j_69⟩ (by omega) (by omega)
set_option maxRecDepth 4000 in
set_option maxHeartbeats 0 in
theorem LW_28 {X : mm_X} {d L : Nat} {M : mm_M} {Q : Option Value → mm_M → Prop} {i : Int32} {u5 u6 : Value} (hX : g_X X) (hW : g_W X) (hW2 : g_W2 X) (hL : (X 0).1 = L) (h3 : L ≤ 3072) (hd : 40 ≤ d) (hi : 0 ≤ i.toInt) (hi2 : i.toInt + 6 ≤ (L : Int)) (H : LI9 M) (h : ∀ (M1 : mm_M) (v5 v6 : Value), LI9 M1 → M1.1.2.1 ≤ M.1.2.1 + 1 → M1.1.2.2.1 ≤ M.1.2.2.1 + 6 → mm_T X d 0 1313 [.ref mm_ext, .ref 0, .ref 77, .ref 125, .int i, v5, v6] [] M1 Q) : mm_T X d 0 1239 [.ref mm_ext, .ref 0, .ref 77, .ref 125, .int i, u5, u6] [] M Q := by
  obtain ⟨⟨⟨⟨⟨⟨⟨⟨hG, ⟨jPI, jNI, jQI, jPQE⟩, ⟨jFA, jWC, jNJ, jPS, jKQ⟩, jJ, jE⟩, jTP, jW9⟩, jNE, jCC⟩, -⟩, jOV⟩, jW8⟩, jNN⟩, jAN⟩ := H
  have b_1 := g_b hG (a := 77) (i := 7) (lo := 0) (hi := 500) rfl rfl
  have b_2 := g_b hG (a := 77) (i := 6) (lo := 0) (hi := 500) rfl rfl
  have b_3 := g_b hG (a := 1) (i := 1) (lo := 0) (hi := 500) rfl rfl
  have b_4 := g_b hG (a := 77) (i := 1) (lo := 0) (hi := 500) rfl rfl
  have b_5 := g_b hG (a := 0) (i := 12) (lo := 0) (hi := 30) rfl rfl
  have b_6 := g_b hG (a := 77) (i := 28) (lo := 0) (hi := 30) rfl rfl
  have b_7 := g_b hG (a := 6) (i := 0) (lo := 0) (hi := 150) rfl rfl
  have b_8 := g_b hG (a := 77) (i := 29) (lo := 0) (hi := 150) rfl rfl
  refine to_an (pc := 1239) rw_0_1239 rfl (to_an (pc := 1240) rw_0_1240 rfl (to_i (pc := 1241) rw_0_1241 rfl (to_c (pc := 1243) rw_0_1243 (x := (1 : Int32)) rfl rfl (s_add (pc := 1244) rw_0_1244 (A := i.toInt) (B := 1) rfl rfl (by omega) (fun v9 e10 => s_x0 (pc := 1245) rw_0_1245 hL (A := v9.toInt) rfl (by omega) (by omega) (fun v11 e12 => to_an (pc := 1246) rw_0_1246 rfl (to_i (pc := 1247) rw_0_1247 rfl (to_c (pc := 1249) rw_0_1249 (x := (2 : Int32)) rfl rfl (s_add (pc := 1250) rw_0_1250 (A := i.toInt) (B := 2) rfl rfl (by omega) (fun v13 e14 => s_x0 (pc := 1251) rw_0_1251 hL (A := v13.toInt) rfl (by omega) (by omega) (fun v15 e16 => to_an (pc := 1252) rw_0_1252 rfl ?_)))))))))))
  refine to_i (pc := 1253) rw_0_1253 rfl (to_c (pc := 1255) rw_0_1255 (x := (3 : Int32)) rfl rfl (s_add (pc := 1256) rw_0_1256 (A := i.toInt) (B := 3) rfl rfl (by omega) (fun v17 e18 => s_x0 (pc := 1257) rw_0_1257 hL (A := v17.toInt) rfl (by omega) (by omega) (fun v19 e20 => s_v (pc := 1258) rw_0_1258 (dp0 hd (by decide)) (ls0 := [.ref 0, .int v11, .int v15, .int v19]) rfl (Nat.le_of_ble_eq_true rfl) (Nat.le_of_ble_eq_true rfl) rfl (to_rc rfl rfl rfl (g_o hG rfl)) rfl ?_))))
  obtain ⟨pz21, pzz21, qz21, qzz21, hpz21, hpzz21, hqz21, hqzz21, hpqz21⟩ := id jPQE
  refine C_137 hX (dp1 hd (by decide)) hG hpz21 hpzz21 hqz21 hqzz21 hpqz21 jNI jPI jQI (k := v11) (f := v15) (w := v19) (p := pz21) (pz := pzz21) (q := qz21) (qz := qzz21) (fun r22 M28 hG24 F23 p_25 p_26 p_27 => ?_)
  have n_29 : M28.1.2.1 = M.1.2.1 ∧ M28.1.2.2.1 = M.1.2.2.1 := by rw [F23.1]; exact ⟨rfl, rfl⟩
  refine to_popi (pc := 1261) rw_0_1261 (to_an (pc := 1262) rw_0_1262 rfl (to_an (pc := 1263) rw_0_1263 rfl (to_i (pc := 1264) rw_0_1264 rfl (to_c (pc := 1266) rw_0_1266 (x := (1 : Int32)) rfl rfl (s_addk (pc := 1267) rw_0_1267 (A := i.toInt) (B := 1) rfl rfl (by omega) (v := v9) e10 (s_x0k (pc := 1268) rw_0_1268 hL (A := v9.toInt) rfl (by omega) (by omega) (v := v11) e12 (to_an (pc := 1269) rw_0_1269 rfl (to_i (pc := 1270) rw_0_1270 rfl (to_c (pc := 1272) rw_0_1272 (x := (2 : Int32)) rfl rfl (s_addk (pc := 1273) rw_0_1273 (A := i.toInt) (B := 2) rfl rfl (by omega) (v := v13) e14 (s_x0k (pc := 1274) rw_0_1274 hL (A := v13.toInt) rfl (by omega) (by omega) (v := v15) e16 ?_)))))))))))
  refine to_an (pc := 1275) rw_0_1275 rfl (to_i (pc := 1276) rw_0_1276 rfl (to_c (pc := 1278) rw_0_1278 (x := (3 : Int32)) rfl rfl (s_addk (pc := 1279) rw_0_1279 (A := i.toInt) (B := 3) rfl rfl (by omega) (v := v17) e18 (s_x0k (pc := 1280) rw_0_1280 hL (A := v17.toInt) rfl (by omega) (by omega) (v := v19) e20 (s_v (pc := 1281) rw_0_1281 (dp0 hd (by decide)) (ls0 := [.ref 77, .int v11, .int v15, .int v19, .null, .null, .null]) rfl (Nat.le_of_ble_eq_true rfl) (Nat.le_of_ble_eq_true rfl) rfl (to_rc rfl rfl rfl (g_o hG24 rfl)) rfl ?_)))))
  have j_37 := (NJ_f (tg_438 F23) jNJ)
  have j_38 := (FA_f (tg_443 F23) jFA)
  refine C_245 hX (dp1 hd (by decide)) hG24 j_37 j_38 (p := v11) (f := v15) (w := v19) (fun r39 M42 hG41 F40 => ?_)
  have n_43 : M42.1.2.1 = M28.1.2.1 ∧ M42.1.2.2.1 = M28.1.2.2.1 := by rw [F40.1]; exact ⟨rfl, rfl⟩
  refine to_popi (pc := 1284) rw_0_1284 (to_go (pc := 1285) rw_0_1285 ?_)
  have c_45 : M42.2.1 77 7 = (M.2.1 77 7) := (F_n F40 (show ¬ (77 = 77 ∧ 7 = 2 ∨ 94 ≤ 77 ∧ 77 ≤ 98 ∨ 121 ≤ 77 ∧ 77 ≤ 124) by decide) (F_n F23 (show ¬ (11 ≤ 77 ∧ 77 ≤ 16 ∨ 18 ≤ 77 ∧ 77 ≤ 48 ∨ 67 ≤ 77 ∧ 77 ≤ 76) by decide) rfl))
  have t_46 : (M42.2.1 77 7).toInt = (M.2.1 77 7).toInt := congrArg Int32.toInt c_45
  have c_47 : M42.2.1 77 6 = (M.2.1 77 6) := (F_n F40 (show ¬ (77 = 77 ∧ 6 = 2 ∨ 94 ≤ 77 ∧ 77 ≤ 98 ∨ 121 ≤ 77 ∧ 77 ≤ 124) by decide) (F_n F23 (show ¬ (11 ≤ 77 ∧ 77 ≤ 16 ∨ 18 ≤ 77 ∧ 77 ≤ 48 ∨ 67 ≤ 77 ∧ 77 ≤ 76) by decide) rfl))
  have t_48 : (M42.2.1 77 6).toInt = (M.2.1 77 6).toInt := congrArg Int32.toInt c_47
  have c_49 : M42.2.1 1 1 = (M.2.1 1 1) := (F_n F40 (show ¬ (1 = 77 ∧ 1 = 2 ∨ 94 ≤ 1 ∧ 1 ≤ 98 ∨ 121 ≤ 1 ∧ 1 ≤ 124) by decide) (F_n F23 (show ¬ (11 ≤ 1 ∧ 1 ≤ 16 ∨ 18 ≤ 1 ∧ 1 ≤ 48 ∨ 67 ≤ 1 ∧ 1 ≤ 76) by decide) rfl))
  have t_50 : (M42.2.1 1 1).toInt = (M.2.1 1 1).toInt := congrArg Int32.toInt c_49
  have c_51 : M42.2.1 77 1 = (M.2.1 77 1) := (F_n F40 (show ¬ (77 = 77 ∧ 1 = 2 ∨ 94 ≤ 77 ∧ 77 ≤ 98 ∨ 121 ≤ 77 ∧ 77 ≤ 124) by decide) (F_n F23 (show ¬ (11 ≤ 77 ∧ 77 ≤ 16 ∨ 18 ≤ 77 ∧ 77 ≤ 48 ∨ 67 ≤ 77 ∧ 77 ≤ 76) by decide) rfl))
  have t_52 : (M42.2.1 77 1).toInt = (M.2.1 77 1).toInt := congrArg Int32.toInt c_51
  have c_53 : M42.2.1 0 12 = (M.2.1 0 12) := (F_n F40 (show ¬ (0 = 77 ∧ 12 = 2 ∨ 94 ≤ 0 ∧ 0 ≤ 98 ∨ 121 ≤ 0 ∧ 0 ≤ 124) by decide) (F_n F23 (show ¬ (11 ≤ 0 ∧ 0 ≤ 16 ∨ 18 ≤ 0 ∧ 0 ≤ 48 ∨ 67 ≤ 0 ∧ 0 ≤ 76) by decide) rfl))
  have t_54 : (M42.2.1 0 12).toInt = (M.2.1 0 12).toInt := congrArg Int32.toInt c_53
  have c_55 : M42.2.1 77 28 = (M.2.1 77 28) := (F_n F40 (show ¬ (77 = 77 ∧ 28 = 2 ∨ 94 ≤ 77 ∧ 77 ≤ 98 ∨ 121 ≤ 77 ∧ 77 ≤ 124) by decide) (F_n F23 (show ¬ (11 ≤ 77 ∧ 77 ≤ 16 ∨ 18 ≤ 77 ∧ 77 ≤ 48 ∨ 67 ≤ 77 ∧ 77 ≤ 76) by decide) rfl))
  have t_56 : (M42.2.1 77 28).toInt = (M.2.1 77 28).toInt := congrArg Int32.toInt c_55
  have c_57 : M42.2.1 17 4 = (M.2.1 17 4) := (F_n F40 (show ¬ (17 = 77 ∧ 4 = 2 ∨ 94 ≤ 17 ∧ 17 ≤ 98 ∨ 121 ≤ 17 ∧ 17 ≤ 124) by decide) (F_n F23 (show ¬ (11 ≤ 17 ∧ 17 ≤ 16 ∨ 18 ≤ 17 ∧ 17 ≤ 48 ∨ 67 ≤ 17 ∧ 17 ≤ 76) by decide) rfl))
  have t_58 : (M42.2.1 17 4).toInt = (M.2.1 17 4).toInt := congrArg Int32.toInt c_57
  have c_59 : M42.2.1 77 41 = (M.2.1 77 41) := (F_n F40 (show ¬ (77 = 77 ∧ 41 = 2 ∨ 94 ≤ 77 ∧ 77 ≤ 98 ∨ 121 ≤ 77 ∧ 77 ≤ 124) by decide) (F_n F23 (show ¬ (11 ≤ 77 ∧ 77 ≤ 16 ∨ 18 ≤ 77 ∧ 77 ≤ 48 ∨ 67 ≤ 77 ∧ 77 ≤ 76) by decide) rfl))
  have t_60 : (M42.2.1 77 41).toInt = (M.2.1 77 41).toInt := congrArg Int32.toInt c_59
  have c_61 : M42.2.1 6 0 = (M.2.1 6 0) := (F_n F40 (show ¬ (6 = 77 ∧ 0 = 2 ∨ 94 ≤ 6 ∧ 6 ≤ 98 ∨ 121 ≤ 6 ∧ 6 ≤ 124) by decide) (F_n F23 (show ¬ (11 ≤ 6 ∧ 6 ≤ 16 ∨ 18 ≤ 6 ∧ 6 ≤ 48 ∨ 67 ≤ 6 ∧ 6 ≤ 76) by decide) rfl))
  have t_62 : (M42.2.1 6 0).toInt = (M.2.1 6 0).toInt := congrArg Int32.toInt c_61
  have c_63 : M42.2.1 77 29 = (M.2.1 77 29) := (F_n F40 (show ¬ (77 = 77 ∧ 29 = 2 ∨ 94 ≤ 77 ∧ 77 ≤ 98 ∨ 121 ≤ 77 ∧ 77 ≤ 124) by decide) (F_n F23 (show ¬ (11 ≤ 77 ∧ 77 ≤ 16 ∨ 18 ≤ 77 ∧ 77 ≤ 48 ∨ 67 ≤ 77 ∧ 77 ≤ 76) by decide) rfl))
  have t_64 : (M42.2.1 77 29).toInt = (M.2.1 77 29).toInt := congrArg Int32.toInt c_63
  have j_65 := (PI_f (tg_595 F40) p_25)
  have j_66 := (NI_f (tg_596 F40) p_26)
  have j_67 := (QI_f (tg_597 F40) p_27)
  have j_68 := (PQE_r F40.2.1 (PQE_r F23.2.1 jPQE))
  have j_69 := (FA_f (tg_598 F40) j_38)
  have j_70 := (WC_f (tg_599 F40) (WC_f (tg_445 F23) jWC))
  have j_71 := (NJ_f (tg_600 F40) j_37)
  have j_72 := (PS_f (tg_601 F40) (PS_f (tg_448 F23) jPS))
  have j_73 := (KQ_f (tg_602 F40) (KQ_f (tg_450 F23) jKQ))
  have j_74 := (TP_f (tg_603 F40) (TP_f (tg_452 F23) jTP))
  have j_75 := (W9_f (tg_604 F40) (W9_f (tg_454 F23) jW9))
  have j_76 := (AN_F F40 tg_615 (AN_F F23 tg_502 jAN))
  have j_77 := (NE_r F40.2.1 (NE_r F23.2.1 jNE))
  have j_78 := (W8_f (tg_605 F40) (W8_f (tg_456 F23) jW8))
  exact h M42 (u5) (u6) ⟨⟨⟨⟨⟨⟨⟨⟨hG41, ⟨j_65, j_66, j_67, j_68⟩, ⟨j_69, j_70, j_71, j_72, j_73⟩, by omega, by omega⟩, j_74, j_75⟩, j_77, by omega⟩, AN_a j_76⟩, by omega⟩, j_78⟩, by omega⟩, j_76⟩ (by omega) (by omega)
set_option maxRecDepth 4000 in
set_option maxHeartbeats 0 in
theorem LW_29 {X : mm_X} {d L : Nat} {M : mm_M} {Q : Option Value → mm_M → Prop} {i : Int32} {u5 u6 : Value} (hX : g_X X) (hW : g_W X) (hW2 : g_W2 X) (hL : (X 0).1 = L) (h3 : L ≤ 3072) (hd : 40 ≤ d) (hi : 0 ≤ i.toInt) (hi2 : i.toInt + 6 ≤ (L : Int)) (H : LI9 M) (h : ∀ (M1 : mm_M) (v5 v6 : Value), LI9 M1 → M1.1.2.1 ≤ M.1.2.1 + 1 → M1.1.2.2.1 ≤ M.1.2.2.1 + 6 → mm_T X d 0 1313 [.ref mm_ext, .ref 0, .ref 77, .ref 125, .int i, v5, v6] [] M1 Q) : mm_T X d 0 1288 [.ref mm_ext, .ref 0, .ref 77, .ref 125, .int i, u5, u6] [] M Q := by
  obtain ⟨⟨⟨⟨⟨⟨⟨⟨hG, ⟨jPI, jNI, jQI, jPQE⟩, ⟨jFA, jWC, jNJ, jPS, jKQ⟩, jJ, jE⟩, jTP, jW9⟩, jNE, jCC⟩, -⟩, jOV⟩, jW8⟩, jNN⟩, jAN⟩ := H
  have b_1 := g_b hG (a := 77) (i := 7) (lo := 0) (hi := 500) rfl rfl
  have b_2 := g_b hG (a := 77) (i := 6) (lo := 0) (hi := 500) rfl rfl
  have b_3 := g_b hG (a := 1) (i := 1) (lo := 0) (hi := 500) rfl rfl
  have b_4 := g_b hG (a := 77) (i := 1) (lo := 0) (hi := 500) rfl rfl
  have b_5 := g_b hG (a := 0) (i := 12) (lo := 0) (hi := 30) rfl rfl
  have b_6 := g_b hG (a := 77) (i := 28) (lo := 0) (hi := 30) rfl rfl
  have b_7 := g_b hG (a := 6) (i := 0) (lo := 0) (hi := 150) rfl rfl
  have b_8 := g_b hG (a := 77) (i := 29) (lo := 0) (hi := 150) rfl rfl
  refine to_an (pc := 1288) rw_0_1288 rfl (to_an (pc := 1289) rw_0_1289 rfl (to_i (pc := 1290) rw_0_1290 rfl (to_c (pc := 1292) rw_0_1292 (x := (1 : Int32)) rfl rfl (s_add (pc := 1293) rw_0_1293 (A := i.toInt) (B := 1) rfl rfl (by omega) (fun v9 e10 => s_x0 (pc := 1294) rw_0_1294 hL (A := v9.toInt) rfl (by omega) (by omega) (fun v11 e12 => s_v (pc := 1295) rw_0_1295 (dp0 hd (by decide)) (ls0 := [.ref 0, .int v11]) rfl (Nat.le_of_ble_eq_true rfl) (Nat.le_of_ble_eq_true rfl) rfl (to_rc rfl rfl rfl (g_o hG rfl)) rfl ?_))))))
  obtain ⟨pz13, pzz13, qz13, qzz13, hpz13, hpzz13, hqz13, hqzz13, hpqz13⟩ := id jPQE
  refine C_138 hX (dp1 hd (by decide)) hG hpz13 hpzz13 hqz13 hqzz13 hpqz13 (w := v11) (p := pz13) (pz := pzz13) (q := qz13) (qz := qzz13) (fun r14 M17 hG16 F15 => ?_)
  have n_18 : M17.1.2.1 = M.1.2.1 ∧ M17.1.2.2.1 = M.1.2.2.1 := by rw [F15.1]; exact ⟨rfl, rfl⟩
  refine to_popi (pc := 1298) rw_0_1298 (to_an (pc := 1299) rw_0_1299 rfl (to_an (pc := 1300) rw_0_1300 rfl (to_i (pc := 1301) rw_0_1301 rfl (to_c (pc := 1303) rw_0_1303 (x := (1 : Int32)) rfl rfl (s_addk (pc := 1304) rw_0_1304 (A := i.toInt) (B := 1) rfl rfl (by omega) (v := v9) e10 (s_x0k (pc := 1305) rw_0_1305 hL (A := v9.toInt) rfl (by omega) (by omega) (v := v11) e12 (s_v (pc := 1306) rw_0_1306 (dp0 hd (by decide)) (ls0 := [.ref 77, .int v11]) rfl (Nat.le_of_ble_eq_true rfl) (Nat.le_of_ble_eq_true rfl) rfl (to_rc rfl rfl rfl (g_o hG16 rfl)) rfl (C_246 hX (dp1 hd (by decide)) hG16 (w := v11) (fun r22 M25 hG24 F23 => ?_)))))))))
  have n_26 : M25.1.2.1 = M17.1.2.1 ∧ M25.1.2.2.1 = M17.1.2.2.1 := by rw [F23.1]; exact ⟨rfl, rfl⟩
  refine to_popi (pc := 1309) rw_0_1309 (to_go (pc := 1310) rw_0_1310 ?_)
  have c_28 : M25.2.1 77 7 = (M.2.1 77 7) := (F_n F23 (show ¬ (77 = 77 ∧ 7 = 2) by decide) (F_n F15 (show ¬ (77 < 0) by decide) rfl))
  have t_29 : (M25.2.1 77 7).toInt = (M.2.1 77 7).toInt := congrArg Int32.toInt c_28
  have c_30 : M25.2.1 77 6 = (M.2.1 77 6) := (F_n F23 (show ¬ (77 = 77 ∧ 6 = 2) by decide) (F_n F15 (show ¬ (77 < 0) by decide) rfl))
  have t_31 : (M25.2.1 77 6).toInt = (M.2.1 77 6).toInt := congrArg Int32.toInt c_30
  have c_32 : M25.2.1 1 1 = (M.2.1 1 1) := (F_n F23 (show ¬ (1 = 77 ∧ 1 = 2) by decide) (F_n F15 (show ¬ (1 < 0) by decide) rfl))
  have t_33 : (M25.2.1 1 1).toInt = (M.2.1 1 1).toInt := congrArg Int32.toInt c_32
  have c_34 : M25.2.1 77 1 = (M.2.1 77 1) := (F_n F23 (show ¬ (77 = 77 ∧ 1 = 2) by decide) (F_n F15 (show ¬ (77 < 0) by decide) rfl))
  have t_35 : (M25.2.1 77 1).toInt = (M.2.1 77 1).toInt := congrArg Int32.toInt c_34
  have c_36 : M25.2.1 0 12 = (M.2.1 0 12) := (F_n F23 (show ¬ (0 = 77 ∧ 12 = 2) by decide) (F_n F15 (show ¬ (0 < 0) by decide) rfl))
  have t_37 : (M25.2.1 0 12).toInt = (M.2.1 0 12).toInt := congrArg Int32.toInt c_36
  have c_38 : M25.2.1 77 28 = (M.2.1 77 28) := (F_n F23 (show ¬ (77 = 77 ∧ 28 = 2) by decide) (F_n F15 (show ¬ (77 < 0) by decide) rfl))
  have t_39 : (M25.2.1 77 28).toInt = (M.2.1 77 28).toInt := congrArg Int32.toInt c_38
  have c_40 : M25.2.1 17 4 = (M.2.1 17 4) := (F_n F23 (show ¬ (17 = 77 ∧ 4 = 2) by decide) (F_n F15 (show ¬ (17 < 0) by decide) rfl))
  have t_41 : (M25.2.1 17 4).toInt = (M.2.1 17 4).toInt := congrArg Int32.toInt c_40
  have c_42 : M25.2.1 77 41 = (M.2.1 77 41) := (F_n F23 (show ¬ (77 = 77 ∧ 41 = 2) by decide) (F_n F15 (show ¬ (77 < 0) by decide) rfl))
  have t_43 : (M25.2.1 77 41).toInt = (M.2.1 77 41).toInt := congrArg Int32.toInt c_42
  have c_44 : M25.2.1 6 0 = (M.2.1 6 0) := (F_n F23 (show ¬ (6 = 77 ∧ 0 = 2) by decide) (F_n F15 (show ¬ (6 < 0) by decide) rfl))
  have t_45 : (M25.2.1 6 0).toInt = (M.2.1 6 0).toInt := congrArg Int32.toInt c_44
  have c_46 : M25.2.1 77 29 = (M.2.1 77 29) := (F_n F23 (show ¬ (77 = 77 ∧ 29 = 2) by decide) (F_n F15 (show ¬ (77 < 0) by decide) rfl))
  have t_47 : (M25.2.1 77 29).toInt = (M.2.1 77 29).toInt := congrArg Int32.toInt c_46
  have j_48 := (PI_f (tg_423 F23) (PI_f (tg_99 F15) jPI))
  have j_49 := (NI_f (tg_424 F23) (NI_f (tg_98 F15) jNI))
  have j_50 := (QI_f (tg_425 F23) (QI_f (tg_100 F15) jQI))
  have j_51 := (PQE_r F23.2.1 (PQE_r F15.2.1 jPQE))
  have j_52 := (FA_f (tg_426 F23) (FA_f (tg_218 F15) jFA))
  have j_53 := (WC_f (tg_427 F23) (WC_f (tg_428 F15) jWC))
  have j_54 := (NJ_f (tg_429 F23) (NJ_f (tg_102 F15) jNJ))
  have j_55 := (PS_f (tg_430 F23) (PS_f (tg_431 F15) jPS))
  have j_56 := (KQ_f (tg_432 F23) (KQ_f (tg_343 F15) jKQ))
  have j_57 := (TP_f (tg_433 F23) (TP_f (tg_434 F15) jTP))
  have j_58 := (W9_f (tg_435 F23) (W9_f (tg_46 F15) jW9))
  have j_59 := (AN_F F23 tg_499 (AN_F F15 tg_500 jAN))
  have j_60 := (NE_r F23.2.1 (NE_r F15.2.1 jNE))
  have j_61 := (W8_f (tg_436 F23) (W8_f (tg_437 F15) jW8))
  exact h M25 (u5) (u6) ⟨⟨⟨⟨⟨⟨⟨⟨hG24, ⟨j_48, j_49, j_50, j_51⟩, ⟨j_52, j_53, j_54, j_55, j_56⟩, by omega, by omega⟩, j_57, j_58⟩, j_60, by omega⟩, AN_a j_59⟩, by omega⟩, j_61⟩, by omega⟩, j_59⟩ (by omega) (by omega)
