section
theorem tg_504 {M M1 : mm_M} (F : FR (fun a i : Nat => a = 77 ∧ (i = 2 ∨ i = 41)) M M1) : ∀ a i : Nat, PI_r a → M1.2.1 a i = M.2.1 a i := fun a i z => F_n F (show ¬ (a = 77 ∧ (i = 2 ∨ i = 41)) by omega) rfl
theorem tg_505 {M M1 : mm_M} (F : FR (fun a i : Nat => a = 77 ∧ (i = 2 ∨ i = 41)) M M1) : ∀ a i : Nat, (7 ≤ a ∧ a ≤ 9) → M1.2.1 a i = M.2.1 a i := fun a i z => F_n F (show ¬ (a = 77 ∧ (i = 2 ∨ i = 41)) by omega) rfl
theorem tg_506 {M M1 : mm_M} (F : FR (fun a i : Nat => a = 77 ∧ (i = 2 ∨ i = 41)) M M1) : ∀ a i : Nat, (a = 68 ∨ a = 69 ∨ a = 73 ∨ a = 74) → M1.2.1 a i = M.2.1 a i := fun a i z => F_n F (show ¬ (a = 77 ∧ (i = 2 ∨ i = 41)) by omega) rfl
theorem tg_507 {M M1 : mm_M} (F : FR (fun a i : Nat => a = 77 ∧ (i = 2 ∨ i = 41)) M M1) : ∀ a i : Nat, (81 ≤ a ∧ a ≤ 84) → M1.2.1 a i = M.2.1 a i := fun a i z => F_n F (show ¬ (a = 77 ∧ (i = 2 ∨ i = 41)) by omega) rfl
theorem tg_508 {M M1 : mm_M} (F : FR (fun a i : Nat => a = 17) M M1) : ∀ a i : Nat, (81 ≤ a ∧ a ≤ 84) → M1.2.1 a i = M.2.1 a i := fun a i z => F_n F (show ¬ (a = 17) by omega) rfl
theorem tg_509 {M M1 : mm_M} (F : FR (fun a i : Nat => a = 77 ∧ (i = 2 ∨ i = 41)) M M1) : ∀ a i : Nat, WC_r a i → M1.2.1 a i = M.2.1 a i := fun a i z => F_n F (show ¬ (a = 77 ∧ (i = 2 ∨ i = 41)) by omega) rfl
theorem tg_510 {M M1 : mm_M} (F : FR (fun a i : Nat => a = 17) M M1) : ∀ a i : Nat, WC_r a i → M1.2.1 a i = M.2.1 a i := fun a i z => F_n F (show ¬ (a = 17) by omega) rfl
theorem tg_511 {M M1 : mm_M} (F : FR (fun a i : Nat => a = 77 ∧ (i = 2 ∨ i = 41)) M M1) : ∀ a i : Nat, NJ_r a i → M1.2.1 a i = M.2.1 a i := fun a i z => F_n F (show ¬ (a = 77 ∧ (i = 2 ∨ i = 41)) by omega) rfl
theorem tg_512 {M M1 : mm_M} (F : FR (fun a i : Nat => a = 17) M M1) : ∀ a i : Nat, NJ_r a i → M1.2.1 a i = M.2.1 a i := fun a i z => F_n F (show ¬ (a = 17) by omega) rfl
theorem tg_513 {M M1 : mm_M} (F : FR (fun a i : Nat => a = 77 ∧ (i = 2 ∨ i = 41)) M M1) : ∀ a i : Nat, (a = 100 ∨ a = 77 ∧ i = 28) → M1.2.1 a i = M.2.1 a i := fun a i z => F_n F (show ¬ (a = 77 ∧ (i = 2 ∨ i = 41)) by omega) rfl
theorem tg_514 {M M1 : mm_M} (F : FR (fun a i : Nat => a = 17) M M1) : ∀ a i : Nat, (a = 100 ∨ a = 77 ∧ i = 28) → M1.2.1 a i = M.2.1 a i := fun a i z => F_n F (show ¬ (a = 17) by omega) rfl
theorem tg_515 {M M1 : mm_M} (F : FR (fun a i : Nat => a = 77 ∧ (i = 2 ∨ i = 41)) M M1) : ∀ a i : Nat, KQ_r a i → M1.2.1 a i = M.2.1 a i := fun a i z => F_n F (show ¬ (a = 77 ∧ (i = 2 ∨ i = 41)) by omega) rfl
theorem tg_516 {M M1 : mm_M} (F : FR (fun a i : Nat => a = 17) M M1) : ∀ a i : Nat, KQ_r a i → M1.2.1 a i = M.2.1 a i := fun a i z => F_n F (show ¬ (a = 17) by omega) rfl
theorem tg_517 {M M1 : mm_M} (F : FR (fun a i : Nat => a = 77 ∧ (i = 2 ∨ i = 41)) M M1) : ∀ a i : Nat, (a = 1 ∧ i = 1 ∨ a = 2 ∨ a = 78) → M1.2.1 a i = M.2.1 a i := fun a i z => F_n F (show ¬ (a = 77 ∧ (i = 2 ∨ i = 41)) by omega) rfl
theorem tg_518 {M M1 : mm_M} (F : FR (fun a i : Nat => a = 17) M M1) : ∀ a i : Nat, (a = 1 ∧ i = 1 ∨ a = 2 ∨ a = 78) → M1.2.1 a i = M.2.1 a i := fun a i z => F_n F (show ¬ (a = 17) by omega) rfl
theorem tg_519 {M M1 : mm_M} (F : FR (fun a i : Nat => a = 77 ∧ (i = 2 ∨ i = 41)) M M1) : ∀ a i : Nat, a = 79 → M1.2.1 a i = M.2.1 a i := fun a i z => F_n F (show ¬ (a = 77 ∧ (i = 2 ∨ i = 41)) by omega) rfl
theorem tg_520 {M M1 : mm_M} (F : FR (fun a i : Nat => a = 17) M M1) : ∀ a i : Nat, a = 79 → M1.2.1 a i = M.2.1 a i := fun a i z => F_n F (show ¬ (a = 17) by omega) rfl
theorem tg_521 {M M1 : mm_M} (F : FR (fun a i : Nat => a = 77 ∧ (i = 2 ∨ i = 41)) M M1) : ∀ a i : Nat, 88 ≤ a ∧ a ≤ 89 → M1.2.1 a i = M.2.1 a i := fun a i z => F_n F (show ¬ (a = 77 ∧ (i = 2 ∨ i = 41)) by omega) rfl
theorem tg_522 {M M1 : mm_M} (F : FR (fun a i : Nat => a = 17) M M1) : ∀ a i : Nat, 88 ≤ a ∧ a ≤ 89 → M1.2.1 a i = M.2.1 a i := fun a i z => F_n F (show ¬ (a = 17) by omega) rfl
theorem tg_523 {M M1 : mm_M} (F : FR (fun a i : Nat => a = 77 ∧ (i = 2 ∨ i = 41) ∨ a = 99 ∨ a = 100) M M1) : ∀ a i : Nat, PI_r a → M1.2.1 a i = M.2.1 a i := fun a i z => F_n F (show ¬ (a = 77 ∧ (i = 2 ∨ i = 41) ∨ a = 99 ∨ a = 100) by omega) rfl
theorem tg_524 {M M1 : mm_M} (F : FR (fun a i : Nat => a = 77 ∧ (i = 2 ∨ i = 41) ∨ a = 99 ∨ a = 100) M M1) : ∀ a i : Nat, (7 ≤ a ∧ a ≤ 9) → M1.2.1 a i = M.2.1 a i := fun a i z => F_n F (show ¬ (a = 77 ∧ (i = 2 ∨ i = 41) ∨ a = 99 ∨ a = 100) by omega) rfl
theorem tg_525 {M M1 : mm_M} (F : FR (fun a i : Nat => a = 77 ∧ (i = 2 ∨ i = 41) ∨ a = 99 ∨ a = 100) M M1) : ∀ a i : Nat, (a = 68 ∨ a = 69 ∨ a = 73 ∨ a = 74) → M1.2.1 a i = M.2.1 a i := fun a i z => F_n F (show ¬ (a = 77 ∧ (i = 2 ∨ i = 41) ∨ a = 99 ∨ a = 100) by omega) rfl
theorem tg_526 {M M1 : mm_M} (F : FR (fun a i : Nat => a = 77 ∧ (i = 2 ∨ i = 41) ∨ a = 99 ∨ a = 100) M M1) : ∀ a i : Nat, (81 ≤ a ∧ a ≤ 84) → M1.2.1 a i = M.2.1 a i := fun a i z => F_n F (show ¬ (a = 77 ∧ (i = 2 ∨ i = 41) ∨ a = 99 ∨ a = 100) by omega) rfl
theorem tg_527 {M M1 : mm_M} (F : FR (fun a i : Nat => 17 ≤ a ∧ a ≤ 27) M M1) : ∀ a i : Nat, (81 ≤ a ∧ a ≤ 84) → M1.2.1 a i = M.2.1 a i := fun a i z => F_n F (show ¬ (17 ≤ a ∧ a ≤ 27) by omega) rfl
theorem tg_528 {M M1 : mm_M} (F : FR (fun a i : Nat => a = 77 ∧ (i = 2 ∨ i = 41) ∨ a = 99 ∨ a = 100) M M1) : ∀ a i : Nat, WC_r a i → M1.2.1 a i = M.2.1 a i := fun a i z => F_n F (show ¬ (a = 77 ∧ (i = 2 ∨ i = 41) ∨ a = 99 ∨ a = 100) by omega) rfl
theorem tg_529 {M M1 : mm_M} (F : FR (fun a i : Nat => 17 ≤ a ∧ a ≤ 27) M M1) : ∀ a i : Nat, WC_r a i → M1.2.1 a i = M.2.1 a i := fun a i z => F_n F (show ¬ (17 ≤ a ∧ a ≤ 27) by omega) rfl
theorem tg_530 {M M1 : mm_M} (F : FR (fun a i : Nat => a = 77 ∧ (i = 2 ∨ i = 41) ∨ a = 99 ∨ a = 100) M M1) : ∀ a i : Nat, NJ_r a i → M1.2.1 a i = M.2.1 a i := fun a i z => F_n F (show ¬ (a = 77 ∧ (i = 2 ∨ i = 41) ∨ a = 99 ∨ a = 100) by omega) rfl
theorem tg_531 {M M1 : mm_M} (F : FR (fun a i : Nat => 17 ≤ a ∧ a ≤ 27) M M1) : ∀ a i : Nat, NJ_r a i → M1.2.1 a i = M.2.1 a i := fun a i z => F_n F (show ¬ (17 ≤ a ∧ a ≤ 27) by omega) rfl
theorem tg_532 {M M1 : mm_M} (F : FR (fun a i : Nat => a = 77 ∧ (i = 2 ∨ i = 41) ∨ a = 99 ∨ a = 100) M M1) : ∀ a i : Nat, KQ_r a i → M1.2.1 a i = M.2.1 a i := fun a i z => F_n F (show ¬ (a = 77 ∧ (i = 2 ∨ i = 41) ∨ a = 99 ∨ a = 100) by omega) rfl
theorem tg_533 {M M1 : mm_M} (F : FR (fun a i : Nat => 17 ≤ a ∧ a ≤ 27) M M1) : ∀ a i : Nat, KQ_r a i → M1.2.1 a i = M.2.1 a i := fun a i z => F_n F (show ¬ (17 ≤ a ∧ a ≤ 27) by omega) rfl
theorem tg_534 {M M1 : mm_M} (F : FR (fun a i : Nat => a = 77 ∧ (i = 2 ∨ i = 41) ∨ a = 99 ∨ a = 100) M M1) : ∀ a i : Nat, (a = 1 ∧ i = 1 ∨ a = 2 ∨ a = 78) → M1.2.1 a i = M.2.1 a i := fun a i z => F_n F (show ¬ (a = 77 ∧ (i = 2 ∨ i = 41) ∨ a = 99 ∨ a = 100) by omega) rfl
theorem tg_535 {M M1 : mm_M} (F : FR (fun a i : Nat => 17 ≤ a ∧ a ≤ 27) M M1) : ∀ a i : Nat, (a = 1 ∧ i = 1 ∨ a = 2 ∨ a = 78) → M1.2.1 a i = M.2.1 a i := fun a i z => F_n F (show ¬ (17 ≤ a ∧ a ≤ 27) by omega) rfl
theorem tg_536 {M M1 : mm_M} (F : FR (fun a i : Nat => a = 77 ∧ (i = 2 ∨ i = 41) ∨ a = 99 ∨ a = 100) M M1) : ∀ a i : Nat, a = 79 → M1.2.1 a i = M.2.1 a i := fun a i z => F_n F (show ¬ (a = 77 ∧ (i = 2 ∨ i = 41) ∨ a = 99 ∨ a = 100) by omega) rfl
theorem tg_537 {M M1 : mm_M} (F : FR (fun a i : Nat => 17 ≤ a ∧ a ≤ 27) M M1) : ∀ a i : Nat, a = 79 → M1.2.1 a i = M.2.1 a i := fun a i z => F_n F (show ¬ (17 ≤ a ∧ a ≤ 27) by omega) rfl
theorem tg_538 {M M1 : mm_M} (F : FR (fun a i : Nat => a = 77 ∧ (i = 2 ∨ i = 41) ∨ a = 99 ∨ a = 100) M M1) : ∀ a i : Nat, 88 ≤ a ∧ a ≤ 89 → M1.2.1 a i = M.2.1 a i := fun a i z => F_n F (show ¬ (a = 77 ∧ (i = 2 ∨ i = 41) ∨ a = 99 ∨ a = 100) by omega) rfl
theorem tg_539 {M M1 : mm_M} (F : FR (fun a i : Nat => 17 ≤ a ∧ a ≤ 27) M M1) : ∀ a i : Nat, 88 ≤ a ∧ a ≤ 89 → M1.2.1 a i = M.2.1 a i := fun a i z => F_n F (show ¬ (17 ≤ a ∧ a ≤ 27) by omega) rfl
theorem tg_540 {M M1 : mm_M} (F : FR (fun a i : Nat => 11 ≤ a ∧ a ≤ 16 ∨ a = 71 ∨ a = 76) M M1) : ∀ a i : Nat, NJ_r a i → M1.2.1 a i = M.2.1 a i := fun a i z => F_n F (show ¬ (11 ≤ a ∧ a ≤ 16 ∨ a = 71 ∨ a = 76) by omega) rfl
theorem tg_541 {M M1 : mm_M} (F : FR (fun a i : Nat => 11 ≤ a ∧ a ≤ 16 ∨ a = 71 ∨ a = 76) M M1) : ∀ a i : Nat, KQ_r a i → M1.2.1 a i = M.2.1 a i := fun a i z => F_n F (show ¬ (11 ≤ a ∧ a ≤ 16 ∨ a = 71 ∨ a = 76) by omega) rfl
theorem tg_542 {M M1 : mm_M} (F : FR (fun a i : Nat => a = 77 ∧ i = 2 ∨ 94 ≤ a ∧ a ≤ 98 ∨ a = 117) M M1) : ∀ a i : Nat, PI_r a → M1.2.1 a i = M.2.1 a i := fun a i z => F_n F (show ¬ (a = 77 ∧ i = 2 ∨ 94 ≤ a ∧ a ≤ 98 ∨ a = 117) by omega) rfl
theorem tg_543 {M M1 : mm_M} (F : FR (fun a i : Nat => 11 ≤ a ∧ a ≤ 16 ∨ a = 71 ∨ a = 76) M M1) : ∀ a i : Nat, PI_r a → M1.2.1 a i = M.2.1 a i := fun a i z => F_n F (show ¬ (11 ≤ a ∧ a ≤ 16 ∨ a = 71 ∨ a = 76) by omega) rfl
theorem tg_544 {M M1 : mm_M} (F : FR (fun a i : Nat => a = 77 ∧ i = 2 ∨ 94 ≤ a ∧ a ≤ 98 ∨ a = 117) M M1) : ∀ a i : Nat, (7 ≤ a ∧ a ≤ 9) → M1.2.1 a i = M.2.1 a i := fun a i z => F_n F (show ¬ (a = 77 ∧ i = 2 ∨ 94 ≤ a ∧ a ≤ 98 ∨ a = 117) by omega) rfl
theorem tg_545 {M M1 : mm_M} (F : FR (fun a i : Nat => 11 ≤ a ∧ a ≤ 16 ∨ a = 71 ∨ a = 76) M M1) : ∀ a i : Nat, (7 ≤ a ∧ a ≤ 9) → M1.2.1 a i = M.2.1 a i := fun a i z => F_n F (show ¬ (11 ≤ a ∧ a ≤ 16 ∨ a = 71 ∨ a = 76) by omega) rfl
theorem tg_546 {M M1 : mm_M} (F : FR (fun a i : Nat => a = 77 ∧ i = 2 ∨ 94 ≤ a ∧ a ≤ 98 ∨ a = 117) M M1) : ∀ a i : Nat, (a = 68 ∨ a = 69 ∨ a = 73 ∨ a = 74) → M1.2.1 a i = M.2.1 a i := fun a i z => F_n F (show ¬ (a = 77 ∧ i = 2 ∨ 94 ≤ a ∧ a ≤ 98 ∨ a = 117) by omega) rfl
theorem tg_547 {M M1 : mm_M} (F : FR (fun a i : Nat => 11 ≤ a ∧ a ≤ 16 ∨ a = 71 ∨ a = 76) M M1) : ∀ a i : Nat, (a = 68 ∨ a = 69 ∨ a = 73 ∨ a = 74) → M1.2.1 a i = M.2.1 a i := fun a i z => F_n F (show ¬ (11 ≤ a ∧ a ≤ 16 ∨ a = 71 ∨ a = 76) by omega) rfl
theorem tg_548 {M M1 : mm_M} (F : FR (fun a i : Nat => a = 77 ∧ i = 2 ∨ 94 ≤ a ∧ a ≤ 98 ∨ a = 117) M M1) : ∀ a i : Nat, (81 ≤ a ∧ a ≤ 84) → M1.2.1 a i = M.2.1 a i := fun a i z => F_n F (show ¬ (a = 77 ∧ i = 2 ∨ 94 ≤ a ∧ a ≤ 98 ∨ a = 117) by omega) rfl
theorem tg_549 {M M1 : mm_M} (F : FR (fun a i : Nat => 11 ≤ a ∧ a ≤ 16 ∨ a = 71 ∨ a = 76) M M1) : ∀ a i : Nat, (81 ≤ a ∧ a ≤ 84) → M1.2.1 a i = M.2.1 a i := fun a i z => F_n F (show ¬ (11 ≤ a ∧ a ≤ 16 ∨ a = 71 ∨ a = 76) by omega) rfl
theorem tg_550 {M M1 : mm_M} (F : FR (fun a i : Nat => a = 77 ∧ i = 2 ∨ 94 ≤ a ∧ a ≤ 98 ∨ a = 117) M M1) : ∀ a i : Nat, WC_r a i → M1.2.1 a i = M.2.1 a i := fun a i z => F_n F (show ¬ (a = 77 ∧ i = 2 ∨ 94 ≤ a ∧ a ≤ 98 ∨ a = 117) by omega) rfl
theorem tg_551 {M M1 : mm_M} (F : FR (fun a i : Nat => 11 ≤ a ∧ a ≤ 16 ∨ a = 71 ∨ a = 76) M M1) : ∀ a i : Nat, WC_r a i → M1.2.1 a i = M.2.1 a i := fun a i z => F_n F (show ¬ (11 ≤ a ∧ a ≤ 16 ∨ a = 71 ∨ a = 76) by omega) rfl
theorem tg_552 {M M1 : mm_M} (F : FR (fun a i : Nat => a = 77 ∧ i = 2 ∨ 94 ≤ a ∧ a ≤ 98 ∨ a = 117) M M1) : ∀ a i : Nat, NJ_r a i → M1.2.1 a i = M.2.1 a i := fun a i z => F_n F (show ¬ (a = 77 ∧ i = 2 ∨ 94 ≤ a ∧ a ≤ 98 ∨ a = 117) by omega) rfl
theorem tg_553 {M M1 : mm_M} (F : FR (fun a i : Nat => a = 77 ∧ i = 2 ∨ 94 ≤ a ∧ a ≤ 98 ∨ a = 117) M M1) : ∀ a i : Nat, (a = 100 ∨ a = 77 ∧ i = 28) → M1.2.1 a i = M.2.1 a i := fun a i z => F_n F (show ¬ (a = 77 ∧ i = 2 ∨ 94 ≤ a ∧ a ≤ 98 ∨ a = 117) by omega) rfl
theorem tg_554 {M M1 : mm_M} (F : FR (fun a i : Nat => 11 ≤ a ∧ a ≤ 16 ∨ a = 71 ∨ a = 76) M M1) : ∀ a i : Nat, (a = 100 ∨ a = 77 ∧ i = 28) → M1.2.1 a i = M.2.1 a i := fun a i z => F_n F (show ¬ (11 ≤ a ∧ a ≤ 16 ∨ a = 71 ∨ a = 76) by omega) rfl
theorem tg_555 {M M1 : mm_M} (F : FR (fun a i : Nat => a = 77 ∧ i = 2 ∨ 94 ≤ a ∧ a ≤ 98 ∨ a = 117) M M1) : ∀ a i : Nat, KQ_r a i → M1.2.1 a i = M.2.1 a i := fun a i z => F_n F (show ¬ (a = 77 ∧ i = 2 ∨ 94 ≤ a ∧ a ≤ 98 ∨ a = 117) by omega) rfl
theorem tg_556 {M M1 : mm_M} (F : FR (fun a i : Nat => a = 77 ∧ i = 2 ∨ 94 ≤ a ∧ a ≤ 98 ∨ a = 117) M M1) : ∀ a i : Nat, (a = 1 ∧ i = 1 ∨ a = 2 ∨ a = 78) → M1.2.1 a i = M.2.1 a i := fun a i z => F_n F (show ¬ (a = 77 ∧ i = 2 ∨ 94 ≤ a ∧ a ≤ 98 ∨ a = 117) by omega) rfl
theorem tg_557 {M M1 : mm_M} (F : FR (fun a i : Nat => 11 ≤ a ∧ a ≤ 16 ∨ a = 71 ∨ a = 76) M M1) : ∀ a i : Nat, (a = 1 ∧ i = 1 ∨ a = 2 ∨ a = 78) → M1.2.1 a i = M.2.1 a i := fun a i z => F_n F (show ¬ (11 ≤ a ∧ a ≤ 16 ∨ a = 71 ∨ a = 76) by omega) rfl
theorem tg_558 {M M1 : mm_M} (F : FR (fun a i : Nat => a = 77 ∧ i = 2 ∨ 94 ≤ a ∧ a ≤ 98 ∨ a = 117) M M1) : ∀ a i : Nat, a = 79 → M1.2.1 a i = M.2.1 a i := fun a i z => F_n F (show ¬ (a = 77 ∧ i = 2 ∨ 94 ≤ a ∧ a ≤ 98 ∨ a = 117) by omega) rfl
theorem tg_559 {M M1 : mm_M} (F : FR (fun a i : Nat => 11 ≤ a ∧ a ≤ 16 ∨ a = 71 ∨ a = 76) M M1) : ∀ a i : Nat, a = 79 → M1.2.1 a i = M.2.1 a i := fun a i z => F_n F (show ¬ (11 ≤ a ∧ a ≤ 16 ∨ a = 71 ∨ a = 76) by omega) rfl
theorem tg_560 {M M1 : mm_M} (F : FR (fun a i : Nat => a = 77 ∧ i = 2 ∨ 94 ≤ a ∧ a ≤ 98 ∨ a = 117) M M1) : ∀ a i : Nat, 88 ≤ a ∧ a ≤ 89 → M1.2.1 a i = M.2.1 a i := fun a i z => F_n F (show ¬ (a = 77 ∧ i = 2 ∨ 94 ≤ a ∧ a ≤ 98 ∨ a = 117) by omega) rfl
theorem tg_561 {M M1 : mm_M} (F : FR (fun a i : Nat => 11 ≤ a ∧ a ≤ 16 ∨ a = 71 ∨ a = 76) M M1) : ∀ a i : Nat, 88 ≤ a ∧ a ≤ 89 → M1.2.1 a i = M.2.1 a i := fun a i z => F_n F (show ¬ (11 ≤ a ∧ a ≤ 16 ∨ a = 71 ∨ a = 76) by omega) rfl
theorem tg_562 {M M1 : mm_M} (F : FR (fun a i : Nat => a = 77 ∧ i = 2 ∨ 94 ≤ a ∧ a ≤ 98 ∨ a = 118) M M1) : ∀ a i : Nat, PI_r a → M1.2.1 a i = M.2.1 a i := fun a i z => F_n F (show ¬ (a = 77 ∧ i = 2 ∨ 94 ≤ a ∧ a ≤ 98 ∨ a = 118) by omega) rfl
theorem tg_563 {M M1 : mm_M} (F : FR (fun a i : Nat => a = 77 ∧ i = 2 ∨ 94 ≤ a ∧ a ≤ 98 ∨ a = 118) M M1) : ∀ a i : Nat, (7 ≤ a ∧ a ≤ 9) → M1.2.1 a i = M.2.1 a i := fun a i z => F_n F (show ¬ (a = 77 ∧ i = 2 ∨ 94 ≤ a ∧ a ≤ 98 ∨ a = 118) by omega) rfl
theorem tg_564 {M M1 : mm_M} (F : FR (fun a i : Nat => a = 77 ∧ i = 2 ∨ 94 ≤ a ∧ a ≤ 98 ∨ a = 118) M M1) : ∀ a i : Nat, (a = 68 ∨ a = 69 ∨ a = 73 ∨ a = 74) → M1.2.1 a i = M.2.1 a i := fun a i z => F_n F (show ¬ (a = 77 ∧ i = 2 ∨ 94 ≤ a ∧ a ≤ 98 ∨ a = 118) by omega) rfl
theorem tg_565 {M M1 : mm_M} (F : FR (fun a i : Nat => a = 77 ∧ i = 2 ∨ 94 ≤ a ∧ a ≤ 98 ∨ a = 118) M M1) : ∀ a i : Nat, (81 ≤ a ∧ a ≤ 84) → M1.2.1 a i = M.2.1 a i := fun a i z => F_n F (show ¬ (a = 77 ∧ i = 2 ∨ 94 ≤ a ∧ a ≤ 98 ∨ a = 118) by omega) rfl
theorem tg_566 {M M1 : mm_M} (F : FR (fun a i : Nat => a = 77 ∧ i = 2 ∨ 94 ≤ a ∧ a ≤ 98 ∨ a = 118) M M1) : ∀ a i : Nat, WC_r a i → M1.2.1 a i = M.2.1 a i := fun a i z => F_n F (show ¬ (a = 77 ∧ i = 2 ∨ 94 ≤ a ∧ a ≤ 98 ∨ a = 118) by omega) rfl
theorem tg_567 {M M1 : mm_M} (F : FR (fun a i : Nat => a = 77 ∧ i = 2 ∨ 94 ≤ a ∧ a ≤ 98 ∨ a = 118) M M1) : ∀ a i : Nat, NJ_r a i → M1.2.1 a i = M.2.1 a i := fun a i z => F_n F (show ¬ (a = 77 ∧ i = 2 ∨ 94 ≤ a ∧ a ≤ 98 ∨ a = 118) by omega) rfl
theorem tg_568 {M M1 : mm_M} (F : FR (fun a i : Nat => a = 77 ∧ i = 2 ∨ 94 ≤ a ∧ a ≤ 98 ∨ a = 118) M M1) : ∀ a i : Nat, (a = 100 ∨ a = 77 ∧ i = 28) → M1.2.1 a i = M.2.1 a i := fun a i z => F_n F (show ¬ (a = 77 ∧ i = 2 ∨ 94 ≤ a ∧ a ≤ 98 ∨ a = 118) by omega) rfl
theorem tg_569 {M M1 : mm_M} (F : FR (fun a i : Nat => a = 77 ∧ i = 2 ∨ 94 ≤ a ∧ a ≤ 98 ∨ a = 118) M M1) : ∀ a i : Nat, KQ_r a i → M1.2.1 a i = M.2.1 a i := fun a i z => F_n F (show ¬ (a = 77 ∧ i = 2 ∨ 94 ≤ a ∧ a ≤ 98 ∨ a = 118) by omega) rfl
theorem tg_570 {M M1 : mm_M} (F : FR (fun a i : Nat => a = 77 ∧ i = 2 ∨ 94 ≤ a ∧ a ≤ 98 ∨ a = 118) M M1) : ∀ a i : Nat, (a = 1 ∧ i = 1 ∨ a = 2 ∨ a = 78) → M1.2.1 a i = M.2.1 a i := fun a i z => F_n F (show ¬ (a = 77 ∧ i = 2 ∨ 94 ≤ a ∧ a ≤ 98 ∨ a = 118) by omega) rfl
theorem tg_571 {M M1 : mm_M} (F : FR (fun a i : Nat => a = 77 ∧ i = 2 ∨ 94 ≤ a ∧ a ≤ 98 ∨ a = 118) M M1) : ∀ a i : Nat, a = 79 → M1.2.1 a i = M.2.1 a i := fun a i z => F_n F (show ¬ (a = 77 ∧ i = 2 ∨ 94 ≤ a ∧ a ≤ 98 ∨ a = 118) by omega) rfl
theorem tg_572 {M M1 : mm_M} (F : FR (fun a i : Nat => a = 77 ∧ i = 2 ∨ 94 ≤ a ∧ a ≤ 98 ∨ a = 118) M M1) : ∀ a i : Nat, 88 ≤ a ∧ a ≤ 89 → M1.2.1 a i = M.2.1 a i := fun a i z => F_n F (show ¬ (a = 77 ∧ i = 2 ∨ 94 ≤ a ∧ a ≤ 98 ∨ a = 118) by omega) rfl
theorem tg_573 {M M1 : mm_M} (F : FR (fun a i : Nat => a = 77 ∧ i = 2 ∨ 94 ≤ a ∧ a ≤ 98 ∨ a = 119) M M1) : ∀ a i : Nat, PI_r a → M1.2.1 a i = M.2.1 a i := fun a i z => F_n F (show ¬ (a = 77 ∧ i = 2 ∨ 94 ≤ a ∧ a ≤ 98 ∨ a = 119) by omega) rfl
theorem tg_574 {M M1 : mm_M} (F : FR (fun a i : Nat => a = 77 ∧ i = 2 ∨ 94 ≤ a ∧ a ≤ 98 ∨ a = 119) M M1) : ∀ a i : Nat, (7 ≤ a ∧ a ≤ 9) → M1.2.1 a i = M.2.1 a i := fun a i z => F_n F (show ¬ (a = 77 ∧ i = 2 ∨ 94 ≤ a ∧ a ≤ 98 ∨ a = 119) by omega) rfl
theorem tg_575 {M M1 : mm_M} (F : FR (fun a i : Nat => a = 77 ∧ i = 2 ∨ 94 ≤ a ∧ a ≤ 98 ∨ a = 119) M M1) : ∀ a i : Nat, (a = 68 ∨ a = 69 ∨ a = 73 ∨ a = 74) → M1.2.1 a i = M.2.1 a i := fun a i z => F_n F (show ¬ (a = 77 ∧ i = 2 ∨ 94 ≤ a ∧ a ≤ 98 ∨ a = 119) by omega) rfl
theorem tg_576 {M M1 : mm_M} (F : FR (fun a i : Nat => a = 77 ∧ i = 2 ∨ 94 ≤ a ∧ a ≤ 98 ∨ a = 119) M M1) : ∀ a i : Nat, (81 ≤ a ∧ a ≤ 84) → M1.2.1 a i = M.2.1 a i := fun a i z => F_n F (show ¬ (a = 77 ∧ i = 2 ∨ 94 ≤ a ∧ a ≤ 98 ∨ a = 119) by omega) rfl
theorem tg_577 {M M1 : mm_M} (F : FR (fun a i : Nat => a = 77 ∧ i = 2 ∨ 94 ≤ a ∧ a ≤ 98 ∨ a = 119) M M1) : ∀ a i : Nat, WC_r a i → M1.2.1 a i = M.2.1 a i := fun a i z => F_n F (show ¬ (a = 77 ∧ i = 2 ∨ 94 ≤ a ∧ a ≤ 98 ∨ a = 119) by omega) rfl
theorem tg_578 {M M1 : mm_M} (F : FR (fun a i : Nat => a = 77 ∧ i = 2 ∨ 94 ≤ a ∧ a ≤ 98 ∨ a = 119) M M1) : ∀ a i : Nat, NJ_r a i → M1.2.1 a i = M.2.1 a i := fun a i z => F_n F (show ¬ (a = 77 ∧ i = 2 ∨ 94 ≤ a ∧ a ≤ 98 ∨ a = 119) by omega) rfl
theorem tg_579 {M M1 : mm_M} (F : FR (fun a i : Nat => a = 77 ∧ i = 2 ∨ 94 ≤ a ∧ a ≤ 98 ∨ a = 119) M M1) : ∀ a i : Nat, (a = 100 ∨ a = 77 ∧ i = 28) → M1.2.1 a i = M.2.1 a i := fun a i z => F_n F (show ¬ (a = 77 ∧ i = 2 ∨ 94 ≤ a ∧ a ≤ 98 ∨ a = 119) by omega) rfl
theorem tg_580 {M M1 : mm_M} (F : FR (fun a i : Nat => a = 77 ∧ i = 2 ∨ 94 ≤ a ∧ a ≤ 98 ∨ a = 119) M M1) : ∀ a i : Nat, KQ_r a i → M1.2.1 a i = M.2.1 a i := fun a i z => F_n F (show ¬ (a = 77 ∧ i = 2 ∨ 94 ≤ a ∧ a ≤ 98 ∨ a = 119) by omega) rfl
theorem tg_581 {M M1 : mm_M} (F : FR (fun a i : Nat => a = 77 ∧ i = 2 ∨ 94 ≤ a ∧ a ≤ 98 ∨ a = 119) M M1) : ∀ a i : Nat, (a = 1 ∧ i = 1 ∨ a = 2 ∨ a = 78) → M1.2.1 a i = M.2.1 a i := fun a i z => F_n F (show ¬ (a = 77 ∧ i = 2 ∨ 94 ≤ a ∧ a ≤ 98 ∨ a = 119) by omega) rfl
theorem tg_582 {M M1 : mm_M} (F : FR (fun a i : Nat => a = 77 ∧ i = 2 ∨ 94 ≤ a ∧ a ≤ 98 ∨ a = 119) M M1) : ∀ a i : Nat, a = 79 → M1.2.1 a i = M.2.1 a i := fun a i z => F_n F (show ¬ (a = 77 ∧ i = 2 ∨ 94 ≤ a ∧ a ≤ 98 ∨ a = 119) by omega) rfl
theorem tg_583 {M M1 : mm_M} (F : FR (fun a i : Nat => a = 77 ∧ i = 2 ∨ 94 ≤ a ∧ a ≤ 98 ∨ a = 119) M M1) : ∀ a i : Nat, 88 ≤ a ∧ a ≤ 89 → M1.2.1 a i = M.2.1 a i := fun a i z => F_n F (show ¬ (a = 77 ∧ i = 2 ∨ 94 ≤ a ∧ a ≤ 98 ∨ a = 119) by omega) rfl
theorem tg_584 {M M1 : mm_M} (F : FR (fun a i : Nat => a = 77 ∧ i = 2 ∨ 94 ≤ a ∧ a ≤ 98 ∨ a = 120) M M1) : ∀ a i : Nat, PI_r a → M1.2.1 a i = M.2.1 a i := fun a i z => F_n F (show ¬ (a = 77 ∧ i = 2 ∨ 94 ≤ a ∧ a ≤ 98 ∨ a = 120) by omega) rfl
theorem tg_585 {M M1 : mm_M} (F : FR (fun a i : Nat => a = 77 ∧ i = 2 ∨ 94 ≤ a ∧ a ≤ 98 ∨ a = 120) M M1) : ∀ a i : Nat, (7 ≤ a ∧ a ≤ 9) → M1.2.1 a i = M.2.1 a i := fun a i z => F_n F (show ¬ (a = 77 ∧ i = 2 ∨ 94 ≤ a ∧ a ≤ 98 ∨ a = 120) by omega) rfl
theorem tg_586 {M M1 : mm_M} (F : FR (fun a i : Nat => a = 77 ∧ i = 2 ∨ 94 ≤ a ∧ a ≤ 98 ∨ a = 120) M M1) : ∀ a i : Nat, (a = 68 ∨ a = 69 ∨ a = 73 ∨ a = 74) → M1.2.1 a i = M.2.1 a i := fun a i z => F_n F (show ¬ (a = 77 ∧ i = 2 ∨ 94 ≤ a ∧ a ≤ 98 ∨ a = 120) by omega) rfl
theorem tg_587 {M M1 : mm_M} (F : FR (fun a i : Nat => a = 77 ∧ i = 2 ∨ 94 ≤ a ∧ a ≤ 98 ∨ a = 120) M M1) : ∀ a i : Nat, (81 ≤ a ∧ a ≤ 84) → M1.2.1 a i = M.2.1 a i := fun a i z => F_n F (show ¬ (a = 77 ∧ i = 2 ∨ 94 ≤ a ∧ a ≤ 98 ∨ a = 120) by omega) rfl
theorem tg_588 {M M1 : mm_M} (F : FR (fun a i : Nat => a = 77 ∧ i = 2 ∨ 94 ≤ a ∧ a ≤ 98 ∨ a = 120) M M1) : ∀ a i : Nat, WC_r a i → M1.2.1 a i = M.2.1 a i := fun a i z => F_n F (show ¬ (a = 77 ∧ i = 2 ∨ 94 ≤ a ∧ a ≤ 98 ∨ a = 120) by omega) rfl
theorem tg_589 {M M1 : mm_M} (F : FR (fun a i : Nat => a = 77 ∧ i = 2 ∨ 94 ≤ a ∧ a ≤ 98 ∨ a = 120) M M1) : ∀ a i : Nat, NJ_r a i → M1.2.1 a i = M.2.1 a i := fun a i z => F_n F (show ¬ (a = 77 ∧ i = 2 ∨ 94 ≤ a ∧ a ≤ 98 ∨ a = 120) by omega) rfl
theorem tg_590 {M M1 : mm_M} (F : FR (fun a i : Nat => a = 77 ∧ i = 2 ∨ 94 ≤ a ∧ a ≤ 98 ∨ a = 120) M M1) : ∀ a i : Nat, (a = 100 ∨ a = 77 ∧ i = 28) → M1.2.1 a i = M.2.1 a i := fun a i z => F_n F (show ¬ (a = 77 ∧ i = 2 ∨ 94 ≤ a ∧ a ≤ 98 ∨ a = 120) by omega) rfl
theorem tg_591 {M M1 : mm_M} (F : FR (fun a i : Nat => a = 77 ∧ i = 2 ∨ 94 ≤ a ∧ a ≤ 98 ∨ a = 120) M M1) : ∀ a i : Nat, KQ_r a i → M1.2.1 a i = M.2.1 a i := fun a i z => F_n F (show ¬ (a = 77 ∧ i = 2 ∨ 94 ≤ a ∧ a ≤ 98 ∨ a = 120) by omega) rfl
theorem tg_592 {M M1 : mm_M} (F : FR (fun a i : Nat => a = 77 ∧ i = 2 ∨ 94 ≤ a ∧ a ≤ 98 ∨ a = 120) M M1) : ∀ a i : Nat, (a = 1 ∧ i = 1 ∨ a = 2 ∨ a = 78) → M1.2.1 a i = M.2.1 a i := fun a i z => F_n F (show ¬ (a = 77 ∧ i = 2 ∨ 94 ≤ a ∧ a ≤ 98 ∨ a = 120) by omega) rfl
theorem tg_593 {M M1 : mm_M} (F : FR (fun a i : Nat => a = 77 ∧ i = 2 ∨ 94 ≤ a ∧ a ≤ 98 ∨ a = 120) M M1) : ∀ a i : Nat, a = 79 → M1.2.1 a i = M.2.1 a i := fun a i z => F_n F (show ¬ (a = 77 ∧ i = 2 ∨ 94 ≤ a ∧ a ≤ 98 ∨ a = 120) by omega) rfl
theorem tg_594 {M M1 : mm_M} (F : FR (fun a i : Nat => a = 77 ∧ i = 2 ∨ 94 ≤ a ∧ a ≤ 98 ∨ a = 120) M M1) : ∀ a i : Nat, 88 ≤ a ∧ a ≤ 89 → M1.2.1 a i = M.2.1 a i := fun a i z => F_n F (show ¬ (a = 77 ∧ i = 2 ∨ 94 ≤ a ∧ a ≤ 98 ∨ a = 120) by omega) rfl
theorem tg_595 {M M1 : mm_M} (F : FR (fun a i : Nat => a = 77 ∧ i = 2 ∨ 94 ≤ a ∧ a ≤ 98 ∨ 121 ≤ a ∧ a ≤ 124) M M1) : ∀ a i : Nat, PI_r a → M1.2.1 a i = M.2.1 a i := fun a i z => F_n F (show ¬ (a = 77 ∧ i = 2 ∨ 94 ≤ a ∧ a ≤ 98 ∨ 121 ≤ a ∧ a ≤ 124) by omega) rfl
theorem tg_596 {M M1 : mm_M} (F : FR (fun a i : Nat => a = 77 ∧ i = 2 ∨ 94 ≤ a ∧ a ≤ 98 ∨ 121 ≤ a ∧ a ≤ 124) M M1) : ∀ a i : Nat, (7 ≤ a ∧ a ≤ 9) → M1.2.1 a i = M.2.1 a i := fun a i z => F_n F (show ¬ (a = 77 ∧ i = 2 ∨ 94 ≤ a ∧ a ≤ 98 ∨ 121 ≤ a ∧ a ≤ 124) by omega) rfl
theorem tg_597 {M M1 : mm_M} (F : FR (fun a i : Nat => a = 77 ∧ i = 2 ∨ 94 ≤ a ∧ a ≤ 98 ∨ 121 ≤ a ∧ a ≤ 124) M M1) : ∀ a i : Nat, (a = 68 ∨ a = 69 ∨ a = 73 ∨ a = 74) → M1.2.1 a i = M.2.1 a i := fun a i z => F_n F (show ¬ (a = 77 ∧ i = 2 ∨ 94 ≤ a ∧ a ≤ 98 ∨ 121 ≤ a ∧ a ≤ 124) by omega) rfl
theorem tg_598 {M M1 : mm_M} (F : FR (fun a i : Nat => a = 77 ∧ i = 2 ∨ 94 ≤ a ∧ a ≤ 98 ∨ 121 ≤ a ∧ a ≤ 124) M M1) : ∀ a i : Nat, (81 ≤ a ∧ a ≤ 84) → M1.2.1 a i = M.2.1 a i := fun a i z => F_n F (show ¬ (a = 77 ∧ i = 2 ∨ 94 ≤ a ∧ a ≤ 98 ∨ 121 ≤ a ∧ a ≤ 124) by omega) rfl
theorem tg_599 {M M1 : mm_M} (F : FR (fun a i : Nat => a = 77 ∧ i = 2 ∨ 94 ≤ a ∧ a ≤ 98 ∨ 121 ≤ a ∧ a ≤ 124) M M1) : ∀ a i : Nat, WC_r a i → M1.2.1 a i = M.2.1 a i := fun a i z => F_n F (show ¬ (a = 77 ∧ i = 2 ∨ 94 ≤ a ∧ a ≤ 98 ∨ 121 ≤ a ∧ a ≤ 124) by omega) rfl
theorem tg_600 {M M1 : mm_M} (F : FR (fun a i : Nat => a = 77 ∧ i = 2 ∨ 94 ≤ a ∧ a ≤ 98 ∨ 121 ≤ a ∧ a ≤ 124) M M1) : ∀ a i : Nat, NJ_r a i → M1.2.1 a i = M.2.1 a i := fun a i z => F_n F (show ¬ (a = 77 ∧ i = 2 ∨ 94 ≤ a ∧ a ≤ 98 ∨ 121 ≤ a ∧ a ≤ 124) by omega) rfl
theorem tg_601 {M M1 : mm_M} (F : FR (fun a i : Nat => a = 77 ∧ i = 2 ∨ 94 ≤ a ∧ a ≤ 98 ∨ 121 ≤ a ∧ a ≤ 124) M M1) : ∀ a i : Nat, (a = 100 ∨ a = 77 ∧ i = 28) → M1.2.1 a i = M.2.1 a i := fun a i z => F_n F (show ¬ (a = 77 ∧ i = 2 ∨ 94 ≤ a ∧ a ≤ 98 ∨ 121 ≤ a ∧ a ≤ 124) by omega) rfl
theorem tg_602 {M M1 : mm_M} (F : FR (fun a i : Nat => a = 77 ∧ i = 2 ∨ 94 ≤ a ∧ a ≤ 98 ∨ 121 ≤ a ∧ a ≤ 124) M M1) : ∀ a i : Nat, KQ_r a i → M1.2.1 a i = M.2.1 a i := fun a i z => F_n F (show ¬ (a = 77 ∧ i = 2 ∨ 94 ≤ a ∧ a ≤ 98 ∨ 121 ≤ a ∧ a ≤ 124) by omega) rfl
theorem tg_603 {M M1 : mm_M} (F : FR (fun a i : Nat => a = 77 ∧ i = 2 ∨ 94 ≤ a ∧ a ≤ 98 ∨ 121 ≤ a ∧ a ≤ 124) M M1) : ∀ a i : Nat, (a = 1 ∧ i = 1 ∨ a = 2 ∨ a = 78) → M1.2.1 a i = M.2.1 a i := fun a i z => F_n F (show ¬ (a = 77 ∧ i = 2 ∨ 94 ≤ a ∧ a ≤ 98 ∨ 121 ≤ a ∧ a ≤ 124) by omega) rfl
theorem tg_604 {M M1 : mm_M} (F : FR (fun a i : Nat => a = 77 ∧ i = 2 ∨ 94 ≤ a ∧ a ≤ 98 ∨ 121 ≤ a ∧ a ≤ 124) M M1) : ∀ a i : Nat, a = 79 → M1.2.1 a i = M.2.1 a i := fun a i z => F_n F (show ¬ (a = 77 ∧ i = 2 ∨ 94 ≤ a ∧ a ≤ 98 ∨ 121 ≤ a ∧ a ≤ 124) by omega) rfl
theorem tg_605 {M M1 : mm_M} (F : FR (fun a i : Nat => a = 77 ∧ i = 2 ∨ 94 ≤ a ∧ a ≤ 98 ∨ 121 ≤ a ∧ a ≤ 124) M M1) : ∀ a i : Nat, 88 ≤ a ∧ a ≤ 89 → M1.2.1 a i = M.2.1 a i := fun a i z => F_n F (show ¬ (a = 77 ∧ i = 2 ∨ 94 ≤ a ∧ a ≤ 98 ∨ 121 ≤ a ∧ a ≤ 124) by omega) rfl
theorem tg_606 : ∀ a i : Nat, (49 ≤ a ∧ a ≤ 66 ∨ a = 77 ∧ 11 ≤ i ∧ i ≤ 13 ∨ 80 ≤ a ∧ a ≤ 87 ∨ 6 ≤ a ∧ a ≤ 10 ∨ 90 ≤ a ∧ a ≤ 93 ∨ a = 0 ∧ i = 12) → ¬ (a = 77 ∧ (i = 2 ∨ i = 41)) := fun a i z => by omega
theorem tg_607 : ∀ a i : Nat, (49 ≤ a ∧ a ≤ 66 ∨ a = 77 ∧ 11 ≤ i ∧ i ≤ 13 ∨ 80 ≤ a ∧ a ≤ 87 ∨ 6 ≤ a ∧ a ≤ 10 ∨ 90 ≤ a ∧ a ≤ 93 ∨ a = 0 ∧ i = 12) → ¬ (a = 17) := fun a i z => by omega
theorem tg_608 : ∀ a i : Nat, (49 ≤ a ∧ a ≤ 66 ∨ a = 77 ∧ 11 ≤ i ∧ i ≤ 13 ∨ 80 ≤ a ∧ a ≤ 87 ∨ 6 ≤ a ∧ a ≤ 10 ∨ 90 ≤ a ∧ a ≤ 93 ∨ a = 0 ∧ i = 12) → ¬ (a = 77 ∧ (i = 2 ∨ i = 41) ∨ a = 99 ∨ a = 100) := fun a i z => by omega
theorem tg_609 : ∀ a i : Nat, (49 ≤ a ∧ a ≤ 66 ∨ a = 77 ∧ 11 ≤ i ∧ i ≤ 13 ∨ 80 ≤ a ∧ a ≤ 87 ∨ 6 ≤ a ∧ a ≤ 10 ∨ 90 ≤ a ∧ a ≤ 93 ∨ a = 0 ∧ i = 12) → ¬ (17 ≤ a ∧ a ≤ 27) := fun a i z => by omega
theorem tg_610 : ∀ a i : Nat, (49 ≤ a ∧ a ≤ 66 ∨ a = 77 ∧ 11 ≤ i ∧ i ≤ 13 ∨ 80 ≤ a ∧ a ≤ 87 ∨ 6 ≤ a ∧ a ≤ 10 ∨ 90 ≤ a ∧ a ≤ 93 ∨ a = 0 ∧ i = 12) → ¬ (a = 77 ∧ i = 2 ∨ 94 ≤ a ∧ a ≤ 98 ∨ a = 117) := fun a i z => by omega
theorem tg_611 : ∀ a i : Nat, (49 ≤ a ∧ a ≤ 66 ∨ a = 77 ∧ 11 ≤ i ∧ i ≤ 13 ∨ 80 ≤ a ∧ a ≤ 87 ∨ 6 ≤ a ∧ a ≤ 10 ∨ 90 ≤ a ∧ a ≤ 93 ∨ a = 0 ∧ i = 12) → ¬ (11 ≤ a ∧ a ≤ 16 ∨ a = 71 ∨ a = 76) := fun a i z => by omega
theorem tg_612 : ∀ a i : Nat, (49 ≤ a ∧ a ≤ 66 ∨ a = 77 ∧ 11 ≤ i ∧ i ≤ 13 ∨ 80 ≤ a ∧ a ≤ 87 ∨ 6 ≤ a ∧ a ≤ 10 ∨ 90 ≤ a ∧ a ≤ 93 ∨ a = 0 ∧ i = 12) → ¬ (a = 77 ∧ i = 2 ∨ 94 ≤ a ∧ a ≤ 98 ∨ a = 118) := fun a i z => by omega
theorem tg_613 : ∀ a i : Nat, (49 ≤ a ∧ a ≤ 66 ∨ a = 77 ∧ 11 ≤ i ∧ i ≤ 13 ∨ 80 ≤ a ∧ a ≤ 87 ∨ 6 ≤ a ∧ a ≤ 10 ∨ 90 ≤ a ∧ a ≤ 93 ∨ a = 0 ∧ i = 12) → ¬ (a = 77 ∧ i = 2 ∨ 94 ≤ a ∧ a ≤ 98 ∨ a = 119) := fun a i z => by omega
theorem tg_614 : ∀ a i : Nat, (49 ≤ a ∧ a ≤ 66 ∨ a = 77 ∧ 11 ≤ i ∧ i ≤ 13 ∨ 80 ≤ a ∧ a ≤ 87 ∨ 6 ≤ a ∧ a ≤ 10 ∨ 90 ≤ a ∧ a ≤ 93 ∨ a = 0 ∧ i = 12) → ¬ (a = 77 ∧ i = 2 ∨ 94 ≤ a ∧ a ≤ 98 ∨ a = 120) := fun a i z => by omega
theorem tg_615 : ∀ a i : Nat, (49 ≤ a ∧ a ≤ 66 ∨ a = 77 ∧ 11 ≤ i ∧ i ≤ 13 ∨ 80 ≤ a ∧ a ≤ 87 ∨ 6 ≤ a ∧ a ≤ 10 ∨ 90 ≤ a ∧ a ≤ 93 ∨ a = 0 ∧ i = 12) → ¬ (a = 77 ∧ i = 2 ∨ 94 ≤ a ∧ a ≤ 98 ∨ 121 ≤ a ∧ a ≤ 124) := fun a i z => by omega
set_option maxRecDepth 4000 in
set_option maxHeartbeats 0 in
theorem LW_15 {X : mm_X} {d L : Nat} {M : mm_M} {Q : Option Value → mm_M → Prop} {i : Int32} {u5 u6 : Value} (hX : g_X X) (hW : g_W X) (hW2 : g_W2 X) (hL : (X 0).1 = L) (h3 : L ≤ 3072) (hd : 40 ≤ d) (hi : 0 ≤ i.toInt) (hi2 : i.toInt + 6 ≤ (L : Int)) (H : LI9 M) (h : ∀ (M1 : mm_M) (v5 v6 : Value), LI9 M1 → M1.1.2.1 ≤ M.1.2.1 + 1 → M1.1.2.2.1 ≤ M.1.2.2.1 + 6 → mm_T X d 0 1314 [.ref mm_ext, .ref 0, .ref 77, .ref 125, .int i, v5, v6] [] M1 Q) : mm_T X d 0 727 [.ref mm_ext, .ref 0, .ref 77, .ref 125, .int i, u5, u6] [] M Q := by
  obtain ⟨⟨⟨⟨⟨⟨⟨⟨hG, ⟨jPI, jNI, jQI, jPQE⟩, ⟨jFA, jWC, jNJ, jPS, jKQ⟩, jJ, jE⟩, jTP, jW9⟩, jNE, jCC⟩, -⟩, jOV⟩, jW8⟩, jNN⟩, jAN⟩ := H
  have b_1 := g_b hG (a := 77) (i := 7) (lo := 0) (hi := 500) rfl rfl
  have b_2 := g_b hG (a := 77) (i := 6) (lo := 0) (hi := 500) rfl rfl
  have b_3 := g_b hG (a := 1) (i := 1) (lo := 0) (hi := 500) rfl rfl
  have b_4 := g_b hG (a := 77) (i := 1) (lo := 0) (hi := 500) rfl rfl
  have b_5 := g_b hG (a := 0) (i := 12) (lo := 0) (hi := 30) rfl rfl
  have b_6 := g_b hG (a := 77) (i := 28) (lo := 0) (hi := 30) rfl rfl
  have b_7 := g_b hG (a := 6) (i := 0) (lo := 0) (hi := 150) rfl rfl
  have b_8 := g_b hG (a := 77) (i := 29) (lo := 0) (hi := 150) rfl rfl
  refine to_an (pc := 727) rw_0_727 rfl (to_an (pc := 728) rw_0_728 rfl (to_i (pc := 729) rw_0_729 rfl (to_c (pc := 731) rw_0_731 (x := (1 : Int32)) rfl rfl (s_add (pc := 732) rw_0_732 (A := i.toInt) (B := 1) rfl rfl (by omega) (fun v9 e10 => s_x0 (pc := 733) rw_0_733 hL (A := v9.toInt) rfl (by omega) (by omega) (fun v11 e12 => to_an (pc := 734) rw_0_734 rfl (to_i (pc := 735) rw_0_735 rfl (to_c (pc := 737) rw_0_737 (x := (2 : Int32)) rfl rfl (s_add (pc := 738) rw_0_738 (A := i.toInt) (B := 2) rfl rfl (by omega) (fun v13 e14 => s_x0 (pc := 739) rw_0_739 hL (A := v13.toInt) rfl (by omega) (by omega) (fun v15 e16 => s_v (pc := 740) rw_0_740 (dp0 hd (by decide)) (ls0 := [.ref 0, .int v11, .int v15]) rfl (Nat.le_of_ble_eq_true rfl) (Nat.le_of_ble_eq_true rfl) rfl (to_rc rfl rfl rfl (g_o hG rfl)) rfl ?_)))))))))))
  obtain ⟨pz17, pzz17, qz17, qzz17, hpz17, hpzz17, hqz17, hqzz17, hpqz17⟩ := id jPQE
  refine C_124 hX (dp1 hd (by decide)) hG hpz17 hpzz17 hqz17 hqzz17 hpqz17 jNI jPI jQI (n := v11) (c := v15) (p := pz17) (pz := pzz17) (q := qz17) (qz := qzz17) (fun r18 M24 hG20 F19 p_21 p_22 p_23 => ?_)
  have n_25 : M24.1.2.1 = M.1.2.1 ∧ M24.1.2.2.1 = M.1.2.2.1 := by rw [F19.1]; exact ⟨rfl, rfl⟩
  refine s_pop2 (pc := 743) rw_0_743 (to_an (pc := 744) rw_0_744 rfl (to_an (pc := 745) rw_0_745 rfl (to_i (pc := 746) rw_0_746 rfl (to_c (pc := 748) rw_0_748 (x := (1 : Int32)) rfl rfl (s_addk (pc := 749) rw_0_749 (A := i.toInt) (B := 1) rfl rfl (by omega) (v := v9) e10 (s_x0k (pc := 750) rw_0_750 hL (A := v9.toInt) rfl (by omega) (by omega) (v := v11) e12 (to_an (pc := 751) rw_0_751 rfl (to_i (pc := 752) rw_0_752 rfl (to_c (pc := 754) rw_0_754 (x := (2 : Int32)) rfl rfl (s_addk (pc := 755) rw_0_755 (A := i.toInt) (B := 2) rfl rfl (by omega) (v := v13) e14 (s_x0k (pc := 756) rw_0_756 hL (A := v13.toInt) rfl (by omega) (by omega) (v := v15) e16 ?_)))))))))))
  refine s_v (pc := 757) rw_0_757 (dp0 hd (by decide)) (ls0 := [.ref 77, .int v11, .int v15]) rfl (Nat.le_of_ble_eq_true rfl) (Nat.le_of_ble_eq_true rfl) rfl (to_rc rfl rfl rfl (g_o hG20 rfl)) rfl ?_
  have j_31 := (NJ_f (tg_438 F19) jNJ)
  refine C_200 hX (dp1 hd (by decide)) hG20 j_31 (n := v11) (c := v15) (fun r32 M35 hG34 F33 => ?_)
  have n_36 : M35.1.2.1 = M24.1.2.1 ∧ M35.1.2.2.1 = M24.1.2.2.1 := by rw [F33.1]; exact ⟨rfl, rfl⟩
  refine s_pop2 (pc := 760) rw_0_760 (to_go (pc := 761) rw_0_761 ?_)
  have c_38 : M35.2.1 77 7 = (M.2.1 77 7) := (F_n F33 (show ¬ (77 = 77 ∧ 7 = 2 ∨ 94 ≤ 77 ∧ 77 ≤ 98) by decide) (F_n F19 (show ¬ (11 ≤ 77 ∧ 77 ≤ 16 ∨ 18 ≤ 77 ∧ 77 ≤ 48 ∨ 67 ≤ 77 ∧ 77 ≤ 76) by decide) rfl))
  have t_39 : (M35.2.1 77 7).toInt = (M.2.1 77 7).toInt := congrArg Int32.toInt c_38
  have c_40 : M35.2.1 77 6 = (M.2.1 77 6) := (F_n F33 (show ¬ (77 = 77 ∧ 6 = 2 ∨ 94 ≤ 77 ∧ 77 ≤ 98) by decide) (F_n F19 (show ¬ (11 ≤ 77 ∧ 77 ≤ 16 ∨ 18 ≤ 77 ∧ 77 ≤ 48 ∨ 67 ≤ 77 ∧ 77 ≤ 76) by decide) rfl))
  have t_41 : (M35.2.1 77 6).toInt = (M.2.1 77 6).toInt := congrArg Int32.toInt c_40
  have c_42 : M35.2.1 1 1 = (M.2.1 1 1) := (F_n F33 (show ¬ (1 = 77 ∧ 1 = 2 ∨ 94 ≤ 1 ∧ 1 ≤ 98) by decide) (F_n F19 (show ¬ (11 ≤ 1 ∧ 1 ≤ 16 ∨ 18 ≤ 1 ∧ 1 ≤ 48 ∨ 67 ≤ 1 ∧ 1 ≤ 76) by decide) rfl))
  have t_43 : (M35.2.1 1 1).toInt = (M.2.1 1 1).toInt := congrArg Int32.toInt c_42
  have c_44 : M35.2.1 77 1 = (M.2.1 77 1) := (F_n F33 (show ¬ (77 = 77 ∧ 1 = 2 ∨ 94 ≤ 77 ∧ 77 ≤ 98) by decide) (F_n F19 (show ¬ (11 ≤ 77 ∧ 77 ≤ 16 ∨ 18 ≤ 77 ∧ 77 ≤ 48 ∨ 67 ≤ 77 ∧ 77 ≤ 76) by decide) rfl))
  have t_45 : (M35.2.1 77 1).toInt = (M.2.1 77 1).toInt := congrArg Int32.toInt c_44
  have c_46 : M35.2.1 0 12 = (M.2.1 0 12) := (F_n F33 (show ¬ (0 = 77 ∧ 12 = 2 ∨ 94 ≤ 0 ∧ 0 ≤ 98) by decide) (F_n F19 (show ¬ (11 ≤ 0 ∧ 0 ≤ 16 ∨ 18 ≤ 0 ∧ 0 ≤ 48 ∨ 67 ≤ 0 ∧ 0 ≤ 76) by decide) rfl))
  have t_47 : (M35.2.1 0 12).toInt = (M.2.1 0 12).toInt := congrArg Int32.toInt c_46
  have c_48 : M35.2.1 77 28 = (M.2.1 77 28) := (F_n F33 (show ¬ (77 = 77 ∧ 28 = 2 ∨ 94 ≤ 77 ∧ 77 ≤ 98) by decide) (F_n F19 (show ¬ (11 ≤ 77 ∧ 77 ≤ 16 ∨ 18 ≤ 77 ∧ 77 ≤ 48 ∨ 67 ≤ 77 ∧ 77 ≤ 76) by decide) rfl))
  have t_49 : (M35.2.1 77 28).toInt = (M.2.1 77 28).toInt := congrArg Int32.toInt c_48
  have c_50 : M35.2.1 17 4 = (M.2.1 17 4) := (F_n F33 (show ¬ (17 = 77 ∧ 4 = 2 ∨ 94 ≤ 17 ∧ 17 ≤ 98) by decide) (F_n F19 (show ¬ (11 ≤ 17 ∧ 17 ≤ 16 ∨ 18 ≤ 17 ∧ 17 ≤ 48 ∨ 67 ≤ 17 ∧ 17 ≤ 76) by decide) rfl))
  have t_51 : (M35.2.1 17 4).toInt = (M.2.1 17 4).toInt := congrArg Int32.toInt c_50
  have c_52 : M35.2.1 77 41 = (M.2.1 77 41) := (F_n F33 (show ¬ (77 = 77 ∧ 41 = 2 ∨ 94 ≤ 77 ∧ 77 ≤ 98) by decide) (F_n F19 (show ¬ (11 ≤ 77 ∧ 77 ≤ 16 ∨ 18 ≤ 77 ∧ 77 ≤ 48 ∨ 67 ≤ 77 ∧ 77 ≤ 76) by decide) rfl))
  have t_53 : (M35.2.1 77 41).toInt = (M.2.1 77 41).toInt := congrArg Int32.toInt c_52
  have c_54 : M35.2.1 6 0 = (M.2.1 6 0) := (F_n F33 (show ¬ (6 = 77 ∧ 0 = 2 ∨ 94 ≤ 6 ∧ 6 ≤ 98) by decide) (F_n F19 (show ¬ (11 ≤ 6 ∧ 6 ≤ 16 ∨ 18 ≤ 6 ∧ 6 ≤ 48 ∨ 67 ≤ 6 ∧ 6 ≤ 76) by decide) rfl))
  have t_55 : (M35.2.1 6 0).toInt = (M.2.1 6 0).toInt := congrArg Int32.toInt c_54
  have c_56 : M35.2.1 77 29 = (M.2.1 77 29) := (F_n F33 (show ¬ (77 = 77 ∧ 29 = 2 ∨ 94 ≤ 77 ∧ 77 ≤ 98) by decide) (F_n F19 (show ¬ (11 ≤ 77 ∧ 77 ≤ 16 ∨ 18 ≤ 77 ∧ 77 ≤ 48 ∨ 67 ≤ 77 ∧ 77 ≤ 76) by decide) rfl))
  have t_57 : (M35.2.1 77 29).toInt = (M.2.1 77 29).toInt := congrArg Int32.toInt c_56
  have j_58 := (PI_f (tg_439 F33) p_21)
  have j_59 := (NI_f (tg_440 F33) p_22)
  have j_60 := (QI_f (tg_441 F33) p_23)
  have j_61 := (PQE_r F33.2.1 (PQE_r F19.2.1 jPQE))
  have j_62 := (FA_f (tg_442 F33) (FA_f (tg_443 F19) jFA))
  have j_63 := (WC_f (tg_444 F33) (WC_f (tg_445 F19) jWC))
  have j_64 := (NJ_f (tg_446 F33) j_31)
  have j_65 := (PS_f (tg_447 F33) (PS_f (tg_448 F19) jPS))
  have j_66 := (KQ_f (tg_449 F33) (KQ_f (tg_450 F19) jKQ))
  have j_67 := (TP_f (tg_451 F33) (TP_f (tg_452 F19) jTP))
  have j_68 := (W9_f (tg_453 F33) (W9_f (tg_454 F19) jW9))
  have j_69 := (AN_F F33 tg_501 (AN_F F19 tg_502 jAN))
  have j_70 := (NE_r F33.2.1 (NE_r F19.2.1 jNE))
  have j_71 := (W8_f (tg_455 F33) (W8_f (tg_456 F19) jW8))
  exact h M35 (u5) (u6) ⟨⟨⟨⟨⟨⟨⟨⟨hG34, ⟨j_58, j_59, j_60, j_61⟩, ⟨j_62, j_63, j_64, j_65, j_66⟩, by omega, by omega⟩, j_67, j_68⟩, j_70, by omega⟩, AN_a j_69⟩, by omega⟩, j_71⟩, by omega⟩, j_69⟩ (by omega) (by omega)
set_option maxRecDepth 4000 in
set_option maxHeartbeats 0 in
theorem LW_16 {X : mm_X} {d L : Nat} {M : mm_M} {Q : Option Value → mm_M → Prop} {i : Int32} {u5 u6 : Value} (hX : g_X X) (hW : g_W X) (hW2 : g_W2 X) (hL : (X 0).1 = L) (h3 : L ≤ 3072) (hd : 40 ≤ d) (hi : 0 ≤ i.toInt) (hi2 : i.toInt + 6 ≤ (L : Int)) (H : LI9 M) (h : ∀ (M1 : mm_M) (v5 v6 : Value), LI9 M1 → M1.1.2.1 ≤ M.1.2.1 + 1 → M1.1.2.2.1 ≤ M.1.2.2.1 + 6 → mm_T X d 0 1314 [.ref mm_ext, .ref 0, .ref 77, .ref 125, .int i, v5, v6] [] M1 Q) : mm_T X d 0 764 [.ref mm_ext, .ref 0, .ref 77, .ref 125, .int i, u5, u6] [] M Q := by
  obtain ⟨⟨⟨⟨⟨⟨⟨⟨hG, ⟨jPI, jNI, jQI, jPQE⟩, ⟨jFA, jWC, jNJ, jPS, jKQ⟩, jJ, jE⟩, jTP, jW9⟩, jNE, jCC⟩, -⟩, jOV⟩, jW8⟩, jNN⟩, jAN⟩ := H
  have b_1 := g_b hG (a := 77) (i := 7) (lo := 0) (hi := 500) rfl rfl
  have b_2 := g_b hG (a := 77) (i := 6) (lo := 0) (hi := 500) rfl rfl
  have b_3 := g_b hG (a := 1) (i := 1) (lo := 0) (hi := 500) rfl rfl
  have b_4 := g_b hG (a := 77) (i := 1) (lo := 0) (hi := 500) rfl rfl
  have b_5 := g_b hG (a := 0) (i := 12) (lo := 0) (hi := 30) rfl rfl
  have b_6 := g_b hG (a := 77) (i := 28) (lo := 0) (hi := 30) rfl rfl
  have b_7 := g_b hG (a := 6) (i := 0) (lo := 0) (hi := 150) rfl rfl
  have b_8 := g_b hG (a := 77) (i := 29) (lo := 0) (hi := 150) rfl rfl
  refine to_an (pc := 764) rw_0_764 rfl (to_an (pc := 765) rw_0_765 rfl (to_i (pc := 766) rw_0_766 rfl (to_c (pc := 768) rw_0_768 (x := (1 : Int32)) rfl rfl (s_add (pc := 769) rw_0_769 (A := i.toInt) (B := 1) rfl rfl (by omega) (fun v9 e10 => s_x0 (pc := 770) rw_0_770 hL (A := v9.toInt) rfl (by omega) (by omega) (fun v11 e12 => to_an (pc := 771) rw_0_771 rfl (to_i (pc := 772) rw_0_772 rfl (to_c (pc := 774) rw_0_774 (x := (2 : Int32)) rfl rfl (s_add (pc := 775) rw_0_775 (A := i.toInt) (B := 2) rfl rfl (by omega) (fun v13 e14 => s_x0 (pc := 776) rw_0_776 hL (A := v13.toInt) rfl (by omega) (by omega) (fun v15 e16 => to_an (pc := 777) rw_0_777 rfl ?_)))))))))))
  refine to_i (pc := 778) rw_0_778 rfl (to_c (pc := 780) rw_0_780 (x := (3 : Int32)) rfl rfl (s_add (pc := 781) rw_0_781 (A := i.toInt) (B := 3) rfl rfl (by omega) (fun v17 e18 => s_x0 (pc := 782) rw_0_782 hL (A := v17.toInt) rfl (by omega) (by omega) (fun v19 e20 => s_v (pc := 783) rw_0_783 (dp0 hd (by decide)) (ls0 := [.ref 0, .int v11, .int v15, .int v19]) rfl (Nat.le_of_ble_eq_true rfl) (Nat.le_of_ble_eq_true rfl) rfl (to_rc rfl rfl rfl (g_o hG rfl)) rfl ?_))))
  obtain ⟨pz21, pzz21, qz21, qzz21, hpz21, hpzz21, hqz21, hqzz21, hpqz21⟩ := id jPQE
  refine C_125 hX (dp1 hd (by decide)) hG hpz21 hpzz21 hqz21 hqzz21 hpqz21 jNI jPI jQI (n := v11) (c := v15) (f := v19) (p := pz21) (pz := pzz21) (q := qz21) (qz := qzz21) (fun r22 M28 hG24 F23 p_25 p_26 p_27 => ?_)
  have n_29 : M28.1.2.1 = M.1.2.1 ∧ M28.1.2.2.1 = M.1.2.2.1 := by rw [F23.1]; exact ⟨rfl, rfl⟩
  refine to_popi (pc := 786) rw_0_786 (to_an (pc := 787) rw_0_787 rfl (to_an (pc := 788) rw_0_788 rfl (to_i (pc := 789) rw_0_789 rfl (to_c (pc := 791) rw_0_791 (x := (1 : Int32)) rfl rfl (s_addk (pc := 792) rw_0_792 (A := i.toInt) (B := 1) rfl rfl (by omega) (v := v9) e10 (s_x0k (pc := 793) rw_0_793 hL (A := v9.toInt) rfl (by omega) (by omega) (v := v11) e12 (to_an (pc := 794) rw_0_794 rfl (to_i (pc := 795) rw_0_795 rfl (to_c (pc := 797) rw_0_797 (x := (2 : Int32)) rfl rfl (s_addk (pc := 798) rw_0_798 (A := i.toInt) (B := 2) rfl rfl (by omega) (v := v13) e14 (s_x0k (pc := 799) rw_0_799 hL (A := v13.toInt) rfl (by omega) (by omega) (v := v15) e16 ?_)))))))))))
  refine to_an (pc := 800) rw_0_800 rfl (to_i (pc := 801) rw_0_801 rfl (to_c (pc := 803) rw_0_803 (x := (3 : Int32)) rfl rfl (s_addk (pc := 804) rw_0_804 (A := i.toInt) (B := 3) rfl rfl (by omega) (v := v17) e18 (s_x0k (pc := 805) rw_0_805 hL (A := v17.toInt) rfl (by omega) (by omega) (v := v19) e20 (s_v (pc := 806) rw_0_806 (dp0 hd (by decide)) (ls0 := [.ref 77, .int v11, .int v15, .int v19]) rfl (Nat.le_of_ble_eq_true rfl) (Nat.le_of_ble_eq_true rfl) rfl (to_rc rfl rfl rfl (g_o hG24 rfl)) rfl ?_)))))
  have j_37 := (NJ_f (tg_438 F23) jNJ)
  refine C_202 hX (dp1 hd (by decide)) hG24 j_37 (n := v11) (c := v15) (f := v19) (fun r38 M41 hG40 F39 => ?_)
  have n_42 : M41.1.2.1 = M28.1.2.1 ∧ M41.1.2.2.1 = M28.1.2.2.1 := by rw [F39.1]; exact ⟨rfl, rfl⟩
  refine to_popi (pc := 809) rw_0_809 (to_go (pc := 810) rw_0_810 ?_)
  have c_44 : M41.2.1 77 7 = (M.2.1 77 7) := (F_n F39 (show ¬ (77 = 77 ∧ 7 = 2 ∨ 94 ≤ 77 ∧ 77 ≤ 98) by decide) (F_n F23 (show ¬ (11 ≤ 77 ∧ 77 ≤ 16 ∨ 18 ≤ 77 ∧ 77 ≤ 48 ∨ 67 ≤ 77 ∧ 77 ≤ 76) by decide) rfl))
  have t_45 : (M41.2.1 77 7).toInt = (M.2.1 77 7).toInt := congrArg Int32.toInt c_44
  have c_46 : M41.2.1 77 6 = (M.2.1 77 6) := (F_n F39 (show ¬ (77 = 77 ∧ 6 = 2 ∨ 94 ≤ 77 ∧ 77 ≤ 98) by decide) (F_n F23 (show ¬ (11 ≤ 77 ∧ 77 ≤ 16 ∨ 18 ≤ 77 ∧ 77 ≤ 48 ∨ 67 ≤ 77 ∧ 77 ≤ 76) by decide) rfl))
  have t_47 : (M41.2.1 77 6).toInt = (M.2.1 77 6).toInt := congrArg Int32.toInt c_46
  have c_48 : M41.2.1 1 1 = (M.2.1 1 1) := (F_n F39 (show ¬ (1 = 77 ∧ 1 = 2 ∨ 94 ≤ 1 ∧ 1 ≤ 98) by decide) (F_n F23 (show ¬ (11 ≤ 1 ∧ 1 ≤ 16 ∨ 18 ≤ 1 ∧ 1 ≤ 48 ∨ 67 ≤ 1 ∧ 1 ≤ 76) by decide) rfl))
  have t_49 : (M41.2.1 1 1).toInt = (M.2.1 1 1).toInt := congrArg Int32.toInt c_48
  have c_50 : M41.2.1 77 1 = (M.2.1 77 1) := (F_n F39 (show ¬ (77 = 77 ∧ 1 = 2 ∨ 94 ≤ 77 ∧ 77 ≤ 98) by decide) (F_n F23 (show ¬ (11 ≤ 77 ∧ 77 ≤ 16 ∨ 18 ≤ 77 ∧ 77 ≤ 48 ∨ 67 ≤ 77 ∧ 77 ≤ 76) by decide) rfl))
  have t_51 : (M41.2.1 77 1).toInt = (M.2.1 77 1).toInt := congrArg Int32.toInt c_50
  have c_52 : M41.2.1 0 12 = (M.2.1 0 12) := (F_n F39 (show ¬ (0 = 77 ∧ 12 = 2 ∨ 94 ≤ 0 ∧ 0 ≤ 98) by decide) (F_n F23 (show ¬ (11 ≤ 0 ∧ 0 ≤ 16 ∨ 18 ≤ 0 ∧ 0 ≤ 48 ∨ 67 ≤ 0 ∧ 0 ≤ 76) by decide) rfl))
  have t_53 : (M41.2.1 0 12).toInt = (M.2.1 0 12).toInt := congrArg Int32.toInt c_52
  have c_54 : M41.2.1 77 28 = (M.2.1 77 28) := (F_n F39 (show ¬ (77 = 77 ∧ 28 = 2 ∨ 94 ≤ 77 ∧ 77 ≤ 98) by decide) (F_n F23 (show ¬ (11 ≤ 77 ∧ 77 ≤ 16 ∨ 18 ≤ 77 ∧ 77 ≤ 48 ∨ 67 ≤ 77 ∧ 77 ≤ 76) by decide) rfl))
  have t_55 : (M41.2.1 77 28).toInt = (M.2.1 77 28).toInt := congrArg Int32.toInt c_54
  have c_56 : M41.2.1 17 4 = (M.2.1 17 4) := (F_n F39 (show ¬ (17 = 77 ∧ 4 = 2 ∨ 94 ≤ 17 ∧ 17 ≤ 98) by decide) (F_n F23 (show ¬ (11 ≤ 17 ∧ 17 ≤ 16 ∨ 18 ≤ 17 ∧ 17 ≤ 48 ∨ 67 ≤ 17 ∧ 17 ≤ 76) by decide) rfl))
  have t_57 : (M41.2.1 17 4).toInt = (M.2.1 17 4).toInt := congrArg Int32.toInt c_56
  have c_58 : M41.2.1 77 41 = (M.2.1 77 41) := (F_n F39 (show ¬ (77 = 77 ∧ 41 = 2 ∨ 94 ≤ 77 ∧ 77 ≤ 98) by decide) (F_n F23 (show ¬ (11 ≤ 77 ∧ 77 ≤ 16 ∨ 18 ≤ 77 ∧ 77 ≤ 48 ∨ 67 ≤ 77 ∧ 77 ≤ 76) by decide) rfl))
  have t_59 : (M41.2.1 77 41).toInt = (M.2.1 77 41).toInt := congrArg Int32.toInt c_58
  have c_60 : M41.2.1 6 0 = (M.2.1 6 0) := (F_n F39 (show ¬ (6 = 77 ∧ 0 = 2 ∨ 94 ≤ 6 ∧ 6 ≤ 98) by decide) (F_n F23 (show ¬ (11 ≤ 6 ∧ 6 ≤ 16 ∨ 18 ≤ 6 ∧ 6 ≤ 48 ∨ 67 ≤ 6 ∧ 6 ≤ 76) by decide) rfl))
  have t_61 : (M41.2.1 6 0).toInt = (M.2.1 6 0).toInt := congrArg Int32.toInt c_60
  have c_62 : M41.2.1 77 29 = (M.2.1 77 29) := (F_n F39 (show ¬ (77 = 77 ∧ 29 = 2 ∨ 94 ≤ 77 ∧ 77 ≤ 98) by decide) (F_n F23 (show ¬ (11 ≤ 77 ∧ 77 ≤ 16 ∨ 18 ≤ 77 ∧ 77 ≤ 48 ∨ 67 ≤ 77 ∧ 77 ≤ 76) by decide) rfl))
  have t_63 : (M41.2.1 77 29).toInt = (M.2.1 77 29).toInt := congrArg Int32.toInt c_62
  have j_64 := (PI_f (tg_439 F39) p_25)
  have j_65 := (NI_f (tg_440 F39) p_26)
  have j_66 := (QI_f (tg_441 F39) p_27)
  have j_67 := (PQE_r F39.2.1 (PQE_r F23.2.1 jPQE))
  have j_68 := (FA_f (tg_442 F39) (FA_f (tg_443 F23) jFA))
  have j_69 := (WC_f (tg_444 F39) (WC_f (tg_445 F23) jWC))
  have j_70 := (NJ_f (tg_446 F39) j_37)
  have j_71 := (PS_f (tg_447 F39) (PS_f (tg_448 F23) jPS))
  have j_72 := (KQ_f (tg_449 F39) (KQ_f (tg_450 F23) jKQ))
  have j_73 := (TP_f (tg_451 F39) (TP_f (tg_452 F23) jTP))
  have j_74 := (W9_f (tg_453 F39) (W9_f (tg_454 F23) jW9))
  have j_75 := (AN_F F39 tg_501 (AN_F F23 tg_502 jAN))
  have j_76 := (NE_r F39.2.1 (NE_r F23.2.1 jNE))
  have j_77 := (W8_f (tg_455 F39) (W8_f (tg_456 F23) jW8))
  exact h M41 (u5) (u6) ⟨⟨⟨⟨⟨⟨⟨⟨hG40, ⟨j_64, j_65, j_66, j_67⟩, ⟨j_68, j_69, j_70, j_71, j_72⟩, by omega, by omega⟩, j_73, j_74⟩, j_76, by omega⟩, AN_a j_75⟩, by omega⟩, j_77⟩, by omega⟩, j_75⟩ (by omega) (by omega)
set_option maxRecDepth 4000 in
set_option maxHeartbeats 0 in
theorem LW_17 {X : mm_X} {d L : Nat} {M : mm_M} {Q : Option Value → mm_M → Prop} {i : Int32} {u5 u6 : Value} (hX : g_X X) (hW : g_W X) (hW2 : g_W2 X) (hL : (X 0).1 = L) (h3 : L ≤ 3072) (hd : 40 ≤ d) (hi : 0 ≤ i.toInt) (hi2 : i.toInt + 6 ≤ (L : Int)) (H : LI9 M) (h : ∀ (M1 : mm_M) (v5 v6 : Value), LI9 M1 → M1.1.2.1 ≤ M.1.2.1 + 1 → M1.1.2.2.1 ≤ M.1.2.2.1 + 6 → mm_T X d 0 1314 [.ref mm_ext, .ref 0, .ref 77, .ref 125, .int i, v5, v6] [] M1 Q) : mm_T X d 0 813 [.ref mm_ext, .ref 0, .ref 77, .ref 125, .int i, u5, u6] [] M Q := by
  obtain ⟨⟨⟨⟨⟨⟨⟨⟨hG, ⟨jPI, jNI, jQI, jPQE⟩, ⟨jFA, jWC, jNJ, jPS, jKQ⟩, jJ, jE⟩, jTP, jW9⟩, jNE, jCC⟩, -⟩, jOV⟩, jW8⟩, jNN⟩, jAN⟩ := H
  have b_1 := g_b hG (a := 77) (i := 7) (lo := 0) (hi := 500) rfl rfl
  have b_2 := g_b hG (a := 77) (i := 6) (lo := 0) (hi := 500) rfl rfl
  have b_3 := g_b hG (a := 1) (i := 1) (lo := 0) (hi := 500) rfl rfl
  have b_4 := g_b hG (a := 77) (i := 1) (lo := 0) (hi := 500) rfl rfl
  have b_5 := g_b hG (a := 0) (i := 12) (lo := 0) (hi := 30) rfl rfl
  have b_6 := g_b hG (a := 77) (i := 28) (lo := 0) (hi := 30) rfl rfl
  have b_7 := g_b hG (a := 6) (i := 0) (lo := 0) (hi := 150) rfl rfl
  have b_8 := g_b hG (a := 77) (i := 29) (lo := 0) (hi := 150) rfl rfl
  refine to_an (pc := 813) rw_0_813 rfl (to_an (pc := 814) rw_0_814 rfl (to_i (pc := 815) rw_0_815 rfl (to_c (pc := 817) rw_0_817 (x := (1 : Int32)) rfl rfl (s_add (pc := 818) rw_0_818 (A := i.toInt) (B := 1) rfl rfl (by omega) (fun v9 e10 => s_x0 (pc := 819) rw_0_819 hL (A := v9.toInt) rfl (by omega) (by omega) (fun v11 e12 => s_v (pc := 820) rw_0_820 (dp0 hd (by decide)) (ls0 := [.ref 0, .int v11]) rfl (Nat.le_of_ble_eq_true rfl) (Nat.le_of_ble_eq_true rfl) rfl (to_rc rfl rfl rfl (g_o hG rfl)) rfl ?_))))))
  obtain ⟨pz13, pzz13, qz13, qzz13, hpz13, hpzz13, hqz13, hqzz13, hpqz13⟩ := id jPQE
  refine E_126 hX (dp1 hd (by decide)) hG hpz13 hpzz13 hqz13 hqzz13 hpqz13 jPI jNI jQI (c := v11) (p := pz13) (pz := pzz13) (q := qz13) (qz := qzz13) (fun r14 M26 hG16 F15 p_17 p_18 p_19 p_20 p_21 p_22 p_23 p_24 p_25 => ?_)
  have n_27 : M26.1.2.1 = M.1.2.1 ∧ M26.1.2.2.1 = M.1.2.2.1 := by rw [F15.1]; exact ⟨rfl, rfl⟩
  refine to_popi (pc := 823) rw_0_823 (to_an (pc := 824) rw_0_824 rfl (to_an (pc := 825) rw_0_825 rfl (to_i (pc := 826) rw_0_826 rfl (to_c (pc := 828) rw_0_828 (x := (1 : Int32)) rfl rfl (s_addk (pc := 829) rw_0_829 (A := i.toInt) (B := 1) rfl rfl (by omega) (v := v9) e10 (s_x0k (pc := 830) rw_0_830 hL (A := v9.toInt) rfl (by omega) (by omega) (v := v11) e12 (s_v (pc := 831) rw_0_831 (dp0 hd (by decide)) (ls0 := [.ref 77, .int v11]) rfl (Nat.le_of_ble_eq_true rfl) (Nat.le_of_ble_eq_true rfl) rfl (to_rc rfl rfl rfl (g_o hG16 rfl)) rfl ?_)))))))
  have c_31 : M26.2.1 77 28 = (M.2.1 77 28) := (F_n F15 (show ¬ (77 = 17) by decide) rfl)
  have t_32 : (M26.2.1 77 28).toInt = (M.2.1 77 28).toInt := congrArg Int32.toInt c_31
  have c_33 : M26.2.1 77 41 = (M.2.1 77 41) := (F_n F15 (show ¬ (77 = 17) by decide) rfl)
  have t_34 : (M26.2.1 77 41).toInt = (M.2.1 77 41).toInt := congrArg Int32.toInt c_33
  refine E_203 hX (dp1 hd (by decide)) hG16 (c := v11) (fun r35 M44 hG37 F36 p_38 p_39 p_40 p_41 p_42 p_43 => ?_)
  have n_45 : M44.1.2.1 = M26.1.2.1 ∧ M44.1.2.2.1 = M26.1.2.2.1 := by rw [F36.1]; exact ⟨rfl, rfl⟩
  have c_47 : M44.2.1 17 4 = (M26.2.1 17 4) := (F_n F36 (show ¬ (17 = 77 ∧ (4 = 2 ∨ 4 = 41)) by decide) rfl)
  have t_48 : (M44.2.1 17 4).toInt = (M26.2.1 17 4).toInt := congrArg Int32.toInt c_47
  have c_49 : M44.2.1 6 0 = (M.2.1 6 0) := (F_n F36 (show ¬ (6 = 77 ∧ (0 = 2 ∨ 0 = 41)) by decide) (F_n F15 (show ¬ (6 = 17) by decide) rfl))
  have t_50 : (M44.2.1 6 0).toInt = (M.2.1 6 0).toInt := congrArg Int32.toInt c_49
  have c_51 : M44.2.1 77 29 = (M.2.1 77 29) := (F_n F36 (show ¬ (77 = 77 ∧ (29 = 2 ∨ 29 = 41)) by decide) (F_n F15 (show ¬ (77 = 17) by decide) rfl))
  have t_52 : (M44.2.1 77 29).toInt = (M.2.1 77 29).toInt := congrArg Int32.toInt c_51
  have z_53 : (M44.2.1 17 4).toInt = (M44.2.1 77 41).toInt := by
    by_cases g9 : 0 ≤ v11.toInt ∧ v11.toInt < (M.2.1 0 12).toInt
    · exact TV_e (M := M) (M1 := M26) (by omega) (p_25 (by omega)) (F_n F36 (show ¬ (17 = 77 ∧ (4 = 2 ∨ 4 = 41)) by decide) rfl) (F_n F15 (show ¬ (77 = 17) by decide) rfl) (p_43 (by omega))
    · omega
  refine to_popi (pc := 834) rw_0_834 (to_go (pc := 835) rw_0_835 ?_)
  have c_54 : M44.2.1 77 7 = (M.2.1 77 7) := (F_n F36 (show ¬ (77 = 77 ∧ (7 = 2 ∨ 7 = 41)) by decide) (F_n F15 (show ¬ (77 = 17) by decide) rfl))
  have t_55 : (M44.2.1 77 7).toInt = (M.2.1 77 7).toInt := congrArg Int32.toInt c_54
  have c_56 : M44.2.1 77 6 = (M.2.1 77 6) := (F_n F36 (show ¬ (77 = 77 ∧ (6 = 2 ∨ 6 = 41)) by decide) (F_n F15 (show ¬ (77 = 17) by decide) rfl))
  have t_57 : (M44.2.1 77 6).toInt = (M.2.1 77 6).toInt := congrArg Int32.toInt c_56
  have c_58 : M44.2.1 1 1 = (M.2.1 1 1) := (F_n F36 (show ¬ (1 = 77 ∧ (1 = 2 ∨ 1 = 41)) by decide) (F_n F15 (show ¬ (1 = 17) by decide) rfl))
  have t_59 : (M44.2.1 1 1).toInt = (M.2.1 1 1).toInt := congrArg Int32.toInt c_58
  have c_60 : M44.2.1 77 1 = (M.2.1 77 1) := (F_n F36 (show ¬ (77 = 77 ∧ (1 = 2 ∨ 1 = 41)) by decide) (F_n F15 (show ¬ (77 = 17) by decide) rfl))
  have t_61 : (M44.2.1 77 1).toInt = (M.2.1 77 1).toInt := congrArg Int32.toInt c_60
  have c_62 : M44.2.1 0 12 = (M.2.1 0 12) := (F_n F36 (show ¬ (0 = 77 ∧ (12 = 2 ∨ 12 = 41)) by decide) (F_n F15 (show ¬ (0 = 17) by decide) rfl))
  have t_63 : (M44.2.1 0 12).toInt = (M.2.1 0 12).toInt := congrArg Int32.toInt c_62
  have c_64 : M44.2.1 77 28 = (M.2.1 77 28) := (F_n F36 (show ¬ (77 = 77 ∧ (28 = 2 ∨ 28 = 41)) by decide) c_31)
  have t_65 : (M44.2.1 77 28).toInt = (M.2.1 77 28).toInt := congrArg Int32.toInt c_64
  have j_66 := (PI_f (tg_504 F36) p_21)
  have j_67 := (NI_f (tg_505 F36) p_22)
  have j_68 := (QI_f (tg_506 F36) p_23)
  have j_69 := (PQE_r F36.2.1 (PQE_r F15.2.1 jPQE))
  have j_70 := (FA_f (tg_507 F36) (FA_f (tg_508 F15) jFA))
  have j_71 := (WC_f (tg_509 F36) (WC_f (tg_510 F15) jWC))
  have j_72 := (NJ_f (tg_511 F36) (NJ_f (tg_512 F15) jNJ))
  have j_73 := (PS_f (tg_513 F36) (PS_f (tg_514 F15) jPS))
  have j_74 := (KQ_f (tg_515 F36) (KQ_f (tg_516 F15) jKQ))
  have j_75 := (TP_f (tg_517 F36) (TP_f (tg_518 F15) jTP))
  have j_76 := (W9_f (tg_519 F36) (W9_f (tg_520 F15) jW9))
  have j_77 := (AN_F F36 tg_606 (AN_F F15 tg_607 jAN))
  have j_78 := (NE_r F36.2.1 (NE_r F15.2.1 jNE))
  have j_79 := (W8_f (tg_521 F36) (W8_f (tg_522 F15) jW8))
  exact h M44 (u5) (u6) ⟨⟨⟨⟨⟨⟨⟨⟨hG37, ⟨j_66, j_67, j_68, j_69⟩, ⟨j_70, j_71, j_72, j_73, j_74⟩, by omega, by omega⟩, j_75, j_76⟩, j_78, by omega⟩, AN_a j_77⟩, by omega⟩, j_79⟩, by omega⟩, j_77⟩ (by omega) (by omega)
set_option maxRecDepth 4000 in
set_option maxHeartbeats 0 in
theorem LW_18 {X : mm_X} {d L : Nat} {M : mm_M} {Q : Option Value → mm_M → Prop} {i : Int32} {u5 u6 : Value} (hX : g_X X) (hW : g_W X) (hW2 : g_W2 X) (hL : (X 0).1 = L) (h3 : L ≤ 3072) (hd : 40 ≤ d) (hi : 0 ≤ i.toInt) (hi2 : i.toInt + 6 ≤ (L : Int)) (H : LI9 M) (h : ∀ (M1 : mm_M) (v5 v6 : Value), LI9 M1 → M1.1.2.1 ≤ M.1.2.1 + 1 → M1.1.2.2.1 ≤ M.1.2.2.1 + 6 → mm_T X d 0 1314 [.ref mm_ext, .ref 0, .ref 77, .ref 125, .int i, v5, v6] [] M1 Q) : mm_T X d 0 838 [.ref mm_ext, .ref 0, .ref 77, .ref 125, .int i, u5, u6] [] M Q := by
  obtain ⟨⟨⟨⟨⟨⟨⟨⟨hG, ⟨jPI, jNI, jQI, jPQE⟩, ⟨jFA, jWC, jNJ, jPS, jKQ⟩, jJ, jE⟩, jTP, jW9⟩, jNE, jCC⟩, -⟩, jOV⟩, jW8⟩, jNN⟩, jAN⟩ := H
  have b_1 := g_b hG (a := 77) (i := 7) (lo := 0) (hi := 500) rfl rfl
  have b_2 := g_b hG (a := 77) (i := 6) (lo := 0) (hi := 500) rfl rfl
  have b_3 := g_b hG (a := 1) (i := 1) (lo := 0) (hi := 500) rfl rfl
  have b_4 := g_b hG (a := 77) (i := 1) (lo := 0) (hi := 500) rfl rfl
  have b_5 := g_b hG (a := 0) (i := 12) (lo := 0) (hi := 30) rfl rfl
  have b_6 := g_b hG (a := 77) (i := 28) (lo := 0) (hi := 30) rfl rfl
  have b_7 := g_b hG (a := 6) (i := 0) (lo := 0) (hi := 150) rfl rfl
  have b_8 := g_b hG (a := 77) (i := 29) (lo := 0) (hi := 150) rfl rfl
  refine to_an (pc := 838) rw_0_838 rfl (s_v (pc := 839) rw_0_839 (dp0 hd (by decide)) (ls0 := [.ref 0]) rfl (Nat.le_of_ble_eq_true rfl) (Nat.le_of_ble_eq_true rfl) rfl (to_rc rfl rfl rfl (g_o hG rfl)) rfl ?_)
  obtain ⟨pz9, pzz9, qz9, qzz9, hpz9, hpzz9, hqz9, hqzz9, hpqz9⟩ := id jPQE
  refine C_127 hX (dp1 hd (by decide)) hG hpz9 hpzz9 hqz9 hqzz9 hpqz9 (p := pz9) (pz := pzz9) (q := qz9) (qz := qzz9) (fun r10 M14 hG12 F11 p_13 => ?_)
  have n_15 : M14.1.2.1 = M.1.2.1 ∧ M14.1.2.2.1 = M.1.2.2.1 := by rw [F11.1]; exact ⟨rfl, rfl⟩
  refine to_popi (pc := 842) rw_0_842 (to_an (pc := 843) rw_0_843 rfl (s_v (pc := 844) rw_0_844 (dp0 hd (by decide)) (ls0 := [.ref 77]) rfl (Nat.le_of_ble_eq_true rfl) (Nat.le_of_ble_eq_true rfl) rfl (to_rc rfl rfl rfl (g_o hG12 rfl)) rfl ?_))
  have c_17 : M14.2.1 77 41 = (M.2.1 77 41) := (F_n F11 (show ¬ (77 < 0) by decide) rfl)
  have t_18 : (M14.2.1 77 41).toInt = (M.2.1 77 41).toInt := congrArg Int32.toInt c_17
  refine C_204 hX (dp1 hd (by decide)) hG12  (fun r19 M23 hG21 F20 p_22 => ?_)
  have n_24 : M23.1.2.1 = M14.1.2.1 ∧ M23.1.2.2.1 = M14.1.2.2.1 := by rw [F20.1]; exact ⟨rfl, rfl⟩
  refine to_popi (pc := 847) rw_0_847 (to_go (pc := 848) rw_0_848 ?_)
  have c_26 : M23.2.1 77 7 = (M.2.1 77 7) := (F_n F20 (show ¬ (77 = 77 ∧ 7 = 2) by decide) (F_n F11 (show ¬ (77 < 0) by decide) rfl))
  have t_27 : (M23.2.1 77 7).toInt = (M.2.1 77 7).toInt := congrArg Int32.toInt c_26
  have c_28 : M23.2.1 77 6 = (M.2.1 77 6) := (F_n F20 (show ¬ (77 = 77 ∧ 6 = 2) by decide) (F_n F11 (show ¬ (77 < 0) by decide) rfl))
  have t_29 : (M23.2.1 77 6).toInt = (M.2.1 77 6).toInt := congrArg Int32.toInt c_28
  have c_30 : M23.2.1 1 1 = (M.2.1 1 1) := (F_n F20 (show ¬ (1 = 77 ∧ 1 = 2) by decide) (F_n F11 (show ¬ (1 < 0) by decide) rfl))
  have t_31 : (M23.2.1 1 1).toInt = (M.2.1 1 1).toInt := congrArg Int32.toInt c_30
  have c_32 : M23.2.1 77 1 = (M.2.1 77 1) := (F_n F20 (show ¬ (77 = 77 ∧ 1 = 2) by decide) (F_n F11 (show ¬ (77 < 0) by decide) rfl))
  have t_33 : (M23.2.1 77 1).toInt = (M.2.1 77 1).toInt := congrArg Int32.toInt c_32
  have c_34 : M23.2.1 0 12 = (M.2.1 0 12) := (F_n F20 (show ¬ (0 = 77 ∧ 12 = 2) by decide) (F_n F11 (show ¬ (0 < 0) by decide) rfl))
  have t_35 : (M23.2.1 0 12).toInt = (M.2.1 0 12).toInt := congrArg Int32.toInt c_34
  have c_36 : M23.2.1 77 28 = (M.2.1 77 28) := (F_n F20 (show ¬ (77 = 77 ∧ 28 = 2) by decide) (F_n F11 (show ¬ (77 < 0) by decide) rfl))
  have t_37 : (M23.2.1 77 28).toInt = (M.2.1 77 28).toInt := congrArg Int32.toInt c_36
  have c_38 : M23.2.1 17 4 = (M.2.1 17 4) := (F_n F20 (show ¬ (17 = 77 ∧ 4 = 2) by decide) (F_n F11 (show ¬ (17 < 0) by decide) rfl))
  have t_39 : (M23.2.1 17 4).toInt = (M.2.1 17 4).toInt := congrArg Int32.toInt c_38
  have c_40 : M23.2.1 77 41 = (M.2.1 77 41) := (F_n F20 (show ¬ (77 = 77 ∧ 41 = 2) by decide) c_17)
  have t_41 : (M23.2.1 77 41).toInt = (M.2.1 77 41).toInt := congrArg Int32.toInt c_40
  have c_42 : M23.2.1 6 0 = (M.2.1 6 0) := (F_n F20 (show ¬ (6 = 77 ∧ 0 = 2) by decide) (F_n F11 (show ¬ (6 < 0) by decide) rfl))
  have t_43 : (M23.2.1 6 0).toInt = (M.2.1 6 0).toInt := congrArg Int32.toInt c_42
  have c_44 : M23.2.1 77 29 = (M.2.1 77 29) := (F_n F20 (show ¬ (77 = 77 ∧ 29 = 2) by decide) (F_n F11 (show ¬ (77 < 0) by decide) rfl))
  have t_45 : (M23.2.1 77 29).toInt = (M.2.1 77 29).toInt := congrArg Int32.toInt c_44
  have j_46 := (PI_f (tg_423 F20) (PI_f (tg_99 F11) jPI))
  have j_47 := (NI_f (tg_424 F20) (NI_f (tg_98 F11) jNI))
  have j_48 := (QI_f (tg_425 F20) (QI_f (tg_100 F11) jQI))
  have j_49 := (PQE_r F20.2.1 (PQE_r F11.2.1 jPQE))
  have j_50 := (FA_f (tg_426 F20) (FA_f (tg_218 F11) jFA))
  have j_51 := (WC_f (tg_427 F20) (WC_f (tg_428 F11) jWC))
  have j_52 := (NJ_f (tg_429 F20) (NJ_f (tg_102 F11) jNJ))
  have j_53 := (PS_f (tg_430 F20) (PS_f (tg_431 F11) jPS))
  have j_54 := (KQ_f (tg_432 F20) (KQ_f (tg_343 F11) jKQ))
  have j_55 := (TP_f (tg_433 F20) (TP_f (tg_434 F11) jTP))
  have j_56 := (W9_f (tg_435 F20) (W9_f (tg_46 F11) jW9))
  have j_57 := (AN_F F20 tg_499 (AN_F F11 tg_500 jAN))
  have j_58 := (NE_r F20.2.1 (NE_r F11.2.1 jNE))
  have j_59 := (W8_f (tg_436 F20) (W8_f (tg_437 F11) jW8))
  exact h M23 (u5) (u6) ⟨⟨⟨⟨⟨⟨⟨⟨hG21, ⟨j_46, j_47, j_48, j_49⟩, ⟨j_50, j_51, j_52, j_53, j_54⟩, by omega, by omega⟩, j_55, j_56⟩, j_58, by omega⟩, AN_a j_57⟩, by omega⟩, j_59⟩, by omega⟩, j_57⟩ (by omega) (by omega)
set_option maxRecDepth 4000 in
set_option maxHeartbeats 0 in
theorem LW_19 {X : mm_X} {d L : Nat} {M : mm_M} {Q : Option Value → mm_M → Prop} {i : Int32} {u5 u6 : Value} (hX : g_X X) (hW : g_W X) (hW2 : g_W2 X) (hL : (X 0).1 = L) (h3 : L ≤ 3072) (hd : 40 ≤ d) (hi : 0 ≤ i.toInt) (hi2 : i.toInt + 6 ≤ (L : Int)) (H : LI9 M) (h : ∀ (M1 : mm_M) (v5 v6 : Value), LI9 M1 → M1.1.2.1 ≤ M.1.2.1 + 1 → M1.1.2.2.1 ≤ M.1.2.2.1 + 6 → mm_T X d 0 1314 [.ref mm_ext, .ref 0, .ref 77, .ref 125, .int i, v5, v6] [] M1 Q) : mm_T X d 0 851 [.ref mm_ext, .ref 0, .ref 77, .ref 125, .int i, u5, u6] [] M Q := by
  obtain ⟨⟨⟨⟨⟨⟨⟨⟨hG, ⟨jPI, jNI, jQI, jPQE⟩, ⟨jFA, jWC, jNJ, jPS, jKQ⟩, jJ, jE⟩, jTP, jW9⟩, jNE, jCC⟩, -⟩, jOV⟩, jW8⟩, jNN⟩, jAN⟩ := H
  have b_1 := g_b hG (a := 77) (i := 7) (lo := 0) (hi := 500) rfl rfl
  have b_2 := g_b hG (a := 77) (i := 6) (lo := 0) (hi := 500) rfl rfl
  have b_3 := g_b hG (a := 1) (i := 1) (lo := 0) (hi := 500) rfl rfl
  have b_4 := g_b hG (a := 77) (i := 1) (lo := 0) (hi := 500) rfl rfl
  have b_5 := g_b hG (a := 0) (i := 12) (lo := 0) (hi := 30) rfl rfl
  have b_6 := g_b hG (a := 77) (i := 28) (lo := 0) (hi := 30) rfl rfl
  have b_7 := g_b hG (a := 6) (i := 0) (lo := 0) (hi := 150) rfl rfl
  have b_8 := g_b hG (a := 77) (i := 29) (lo := 0) (hi := 150) rfl rfl
  refine to_an (pc := 851) rw_0_851 rfl (to_an (pc := 852) rw_0_852 rfl (to_i (pc := 853) rw_0_853 rfl (to_c (pc := 855) rw_0_855 (x := (1 : Int32)) rfl rfl (s_add (pc := 856) rw_0_856 (A := i.toInt) (B := 1) rfl rfl (by omega) (fun v9 e10 => s_x0 (pc := 857) rw_0_857 hL (A := v9.toInt) rfl (by omega) (by omega) (fun v11 e12 => to_an (pc := 858) rw_0_858 rfl (to_i (pc := 859) rw_0_859 rfl (to_c (pc := 861) rw_0_861 (x := (2 : Int32)) rfl rfl (s_add (pc := 862) rw_0_862 (A := i.toInt) (B := 2) rfl rfl (by omega) (fun v13 e14 => s_x0 (pc := 863) rw_0_863 hL (A := v13.toInt) rfl (by omega) (by omega) (fun v15 e16 => s_v (pc := 864) rw_0_864 (dp0 hd (by decide)) (ls0 := [.ref 0, .int v11, .int v15]) rfl (Nat.le_of_ble_eq_true rfl) (Nat.le_of_ble_eq_true rfl) rfl (to_rc rfl rfl rfl (g_o hG rfl)) rfl ?_)))))))))))
  obtain ⟨pz17, pzz17, qz17, qzz17, hpz17, hpzz17, hqz17, hqzz17, hpqz17⟩ := id jPQE
  refine C_128 hX (dp1 hd (by decide)) hG hpz17 hpzz17 hqz17 hqzz17 hpqz17 (k := v11) (j := v15) (p := pz17) (pz := pzz17) (q := qz17) (qz := qzz17) (fun r18 M21 hG20 F19 => ?_)
  have n_22 : M21.1.2.1 = M.1.2.1 ∧ M21.1.2.2.1 = M.1.2.2.1 := by rw [F19.1]; exact ⟨rfl, rfl⟩
  refine to_popi (pc := 867) rw_0_867 (to_an (pc := 868) rw_0_868 rfl (to_an (pc := 869) rw_0_869 rfl (to_i (pc := 870) rw_0_870 rfl (to_c (pc := 872) rw_0_872 (x := (1 : Int32)) rfl rfl (s_addk (pc := 873) rw_0_873 (A := i.toInt) (B := 1) rfl rfl (by omega) (v := v9) e10 (s_x0k (pc := 874) rw_0_874 hL (A := v9.toInt) rfl (by omega) (by omega) (v := v11) e12 (to_an (pc := 875) rw_0_875 rfl (to_i (pc := 876) rw_0_876 rfl (to_c (pc := 878) rw_0_878 (x := (2 : Int32)) rfl rfl (s_addk (pc := 879) rw_0_879 (A := i.toInt) (B := 2) rfl rfl (by omega) (v := v13) e14 (s_x0k (pc := 880) rw_0_880 hL (A := v13.toInt) rfl (by omega) (by omega) (v := v15) e16 ?_)))))))))))
  refine s_v (pc := 881) rw_0_881 (dp0 hd (by decide)) (ls0 := [.ref 77, .int v11, .int v15]) rfl (Nat.le_of_ble_eq_true rfl) (Nat.le_of_ble_eq_true rfl) rfl (to_rc rfl rfl rfl (g_o hG20 rfl)) rfl (C_206 hX (dp1 hd (by decide)) hG20 (p := v11) (k := v15) (fun r28 M31 hG30 F29 => ?_))
  have n_32 : M31.1.2.1 = M21.1.2.1 ∧ M31.1.2.2.1 = M21.1.2.2.1 := by rw [F29.1]; exact ⟨rfl, rfl⟩
  refine to_popi (pc := 884) rw_0_884 (to_go (pc := 885) rw_0_885 ?_)
  have c_34 : M31.2.1 77 7 = (M.2.1 77 7) := (F_n F29 (show ¬ (77 = 77 ∧ 7 = 2) by decide) (F_n F19 (show ¬ (77 < 0) by decide) rfl))
  have t_35 : (M31.2.1 77 7).toInt = (M.2.1 77 7).toInt := congrArg Int32.toInt c_34
  have c_36 : M31.2.1 77 6 = (M.2.1 77 6) := (F_n F29 (show ¬ (77 = 77 ∧ 6 = 2) by decide) (F_n F19 (show ¬ (77 < 0) by decide) rfl))
  have t_37 : (M31.2.1 77 6).toInt = (M.2.1 77 6).toInt := congrArg Int32.toInt c_36
  have c_38 : M31.2.1 1 1 = (M.2.1 1 1) := (F_n F29 (show ¬ (1 = 77 ∧ 1 = 2) by decide) (F_n F19 (show ¬ (1 < 0) by decide) rfl))
  have t_39 : (M31.2.1 1 1).toInt = (M.2.1 1 1).toInt := congrArg Int32.toInt c_38
  have c_40 : M31.2.1 77 1 = (M.2.1 77 1) := (F_n F29 (show ¬ (77 = 77 ∧ 1 = 2) by decide) (F_n F19 (show ¬ (77 < 0) by decide) rfl))
  have t_41 : (M31.2.1 77 1).toInt = (M.2.1 77 1).toInt := congrArg Int32.toInt c_40
  have c_42 : M31.2.1 0 12 = (M.2.1 0 12) := (F_n F29 (show ¬ (0 = 77 ∧ 12 = 2) by decide) (F_n F19 (show ¬ (0 < 0) by decide) rfl))
  have t_43 : (M31.2.1 0 12).toInt = (M.2.1 0 12).toInt := congrArg Int32.toInt c_42
  have c_44 : M31.2.1 77 28 = (M.2.1 77 28) := (F_n F29 (show ¬ (77 = 77 ∧ 28 = 2) by decide) (F_n F19 (show ¬ (77 < 0) by decide) rfl))
  have t_45 : (M31.2.1 77 28).toInt = (M.2.1 77 28).toInt := congrArg Int32.toInt c_44
  have c_46 : M31.2.1 17 4 = (M.2.1 17 4) := (F_n F29 (show ¬ (17 = 77 ∧ 4 = 2) by decide) (F_n F19 (show ¬ (17 < 0) by decide) rfl))
  have t_47 : (M31.2.1 17 4).toInt = (M.2.1 17 4).toInt := congrArg Int32.toInt c_46
  have c_48 : M31.2.1 77 41 = (M.2.1 77 41) := (F_n F29 (show ¬ (77 = 77 ∧ 41 = 2) by decide) (F_n F19 (show ¬ (77 < 0) by decide) rfl))
  have t_49 : (M31.2.1 77 41).toInt = (M.2.1 77 41).toInt := congrArg Int32.toInt c_48
  have c_50 : M31.2.1 6 0 = (M.2.1 6 0) := (F_n F29 (show ¬ (6 = 77 ∧ 0 = 2) by decide) (F_n F19 (show ¬ (6 < 0) by decide) rfl))
  have t_51 : (M31.2.1 6 0).toInt = (M.2.1 6 0).toInt := congrArg Int32.toInt c_50
  have c_52 : M31.2.1 77 29 = (M.2.1 77 29) := (F_n F29 (show ¬ (77 = 77 ∧ 29 = 2) by decide) (F_n F19 (show ¬ (77 < 0) by decide) rfl))
  have t_53 : (M31.2.1 77 29).toInt = (M.2.1 77 29).toInt := congrArg Int32.toInt c_52
  have j_54 := (PI_f (tg_423 F29) (PI_f (tg_99 F19) jPI))
  have j_55 := (NI_f (tg_424 F29) (NI_f (tg_98 F19) jNI))
  have j_56 := (QI_f (tg_425 F29) (QI_f (tg_100 F19) jQI))
  have j_57 := (PQE_r F29.2.1 (PQE_r F19.2.1 jPQE))
  have j_58 := (FA_f (tg_426 F29) (FA_f (tg_218 F19) jFA))
  have j_59 := (WC_f (tg_427 F29) (WC_f (tg_428 F19) jWC))
  have j_60 := (NJ_f (tg_429 F29) (NJ_f (tg_102 F19) jNJ))
  have j_61 := (PS_f (tg_430 F29) (PS_f (tg_431 F19) jPS))
  have j_62 := (KQ_f (tg_432 F29) (KQ_f (tg_343 F19) jKQ))
  have j_63 := (TP_f (tg_433 F29) (TP_f (tg_434 F19) jTP))
  have j_64 := (W9_f (tg_435 F29) (W9_f (tg_46 F19) jW9))
  have j_65 := (AN_F F29 tg_499 (AN_F F19 tg_500 jAN))
  have j_66 := (NE_r F29.2.1 (NE_r F19.2.1 jNE))
  have j_67 := (W8_f (tg_436 F29) (W8_f (tg_437 F19) jW8))
  exact h M31 (u5) (u6) ⟨⟨⟨⟨⟨⟨⟨⟨hG30, ⟨j_54, j_55, j_56, j_57⟩, ⟨j_58, j_59, j_60, j_61, j_62⟩, by omega, by omega⟩, j_63, j_64⟩, j_66, by omega⟩, AN_a j_65⟩, by omega⟩, j_67⟩, by omega⟩, j_65⟩ (by omega) (by omega)
set_option maxRecDepth 4000 in
set_option maxHeartbeats 0 in
theorem LW_20 {X : mm_X} {d L : Nat} {M : mm_M} {Q : Option Value → mm_M → Prop} {i : Int32} {u5 u6 : Value} (hX : g_X X) (hW : g_W X) (hW2 : g_W2 X) (hL : (X 0).1 = L) (h3 : L ≤ 3072) (hd : 40 ≤ d) (hi : 0 ≤ i.toInt) (hi2 : i.toInt + 6 ≤ (L : Int)) (H : LI9 M) (h : ∀ (M1 : mm_M) (v5 v6 : Value), LI9 M1 → M1.1.2.1 ≤ M.1.2.1 + 1 → M1.1.2.2.1 ≤ M.1.2.2.1 + 6 → mm_T X d 0 1314 [.ref mm_ext, .ref 0, .ref 77, .ref 125, .int i, v5, v6] [] M1 Q) : mm_T X d 0 888 [.ref mm_ext, .ref 0, .ref 77, .ref 125, .int i, u5, u6] [] M Q := by
  obtain ⟨⟨⟨⟨⟨⟨⟨⟨hG, ⟨jPI, jNI, jQI, jPQE⟩, ⟨jFA, jWC, jNJ, jPS, jKQ⟩, jJ, jE⟩, jTP, jW9⟩, jNE, jCC⟩, -⟩, jOV⟩, jW8⟩, jNN⟩, jAN⟩ := H
  have b_1 := g_b hG (a := 77) (i := 7) (lo := 0) (hi := 500) rfl rfl
  have b_2 := g_b hG (a := 77) (i := 6) (lo := 0) (hi := 500) rfl rfl
  have b_3 := g_b hG (a := 1) (i := 1) (lo := 0) (hi := 500) rfl rfl
  have b_4 := g_b hG (a := 77) (i := 1) (lo := 0) (hi := 500) rfl rfl
  have b_5 := g_b hG (a := 0) (i := 12) (lo := 0) (hi := 30) rfl rfl
  have b_6 := g_b hG (a := 77) (i := 28) (lo := 0) (hi := 30) rfl rfl
  have b_7 := g_b hG (a := 6) (i := 0) (lo := 0) (hi := 150) rfl rfl
  have b_8 := g_b hG (a := 77) (i := 29) (lo := 0) (hi := 150) rfl rfl
  refine to_an (pc := 888) rw_0_888 rfl (to_an (pc := 889) rw_0_889 rfl (to_i (pc := 890) rw_0_890 rfl (to_c (pc := 892) rw_0_892 (x := (1 : Int32)) rfl rfl (s_add (pc := 893) rw_0_893 (A := i.toInt) (B := 1) rfl rfl (by omega) (fun v9 e10 => s_x0 (pc := 894) rw_0_894 hL (A := v9.toInt) rfl (by omega) (by omega) (fun v11 e12 => to_an (pc := 895) rw_0_895 rfl (to_i (pc := 896) rw_0_896 rfl (to_c (pc := 898) rw_0_898 (x := (2 : Int32)) rfl rfl (s_add (pc := 899) rw_0_899 (A := i.toInt) (B := 2) rfl rfl (by omega) (fun v13 e14 => s_x0 (pc := 900) rw_0_900 hL (A := v13.toInt) rfl (by omega) (by omega) (fun v15 e16 => s_i2l (pc := 901) rw_0_901 (fun l17 e18 => ?_))))))))))))
  refine to_c (pc := 902) rw_0_902 (x := (32 : Int32)) rfl rfl (s_anyS (pc := 904) rw_0_904 (fun _ _ => rfl) (fun l19 => to_an (pc := 905) rw_0_905 rfl (to_i (pc := 906) rw_0_906 rfl (to_c (pc := 908) rw_0_908 (x := (3 : Int32)) rfl rfl (s_add (pc := 909) rw_0_909 (A := i.toInt) (B := 3) rfl rfl (by omega) (fun v20 e21 => s_x0 (pc := 910) rw_0_910 hL (A := v20.toInt) rfl (by omega) (by omega) (fun v22 e23 => s_i2l (pc := 911) rw_0_911 (fun l24 e25 => s_cl (pc := 912) rw_0_912 rfl (fun l26 => s_anyL (pc := 915) rw_0_915 (fun _ _ => rfl) (fun l27 => s_anyL (pc := 916) rw_0_916 (fun _ _ => rfl) (fun l28 => s_v (pc := 917) rw_0_917 (dp0 hd (by decide)) (ls0 := [.ref 0, .int v11, .long l28, .null]) rfl (Nat.le_of_ble_eq_true rfl) (Nat.le_of_ble_eq_true rfl) rfl (to_rc rfl rfl rfl (g_o hG rfl)) rfl ?_)))))))))))
  obtain ⟨pz29, pzz29, qz29, qzz29, hpz29, hpzz29, hqz29, hqzz29, hpqz29⟩ := id jPQE
  refine C_129 hX (dp1 hd (by decide)) hG hpz29 hpzz29 hqz29 hqzz29 hpqz29 jNI jPI jQI (k := v11) (x := l28) (p := pz29) (pz := pzz29) (q := qz29) (qz := qzz29) (fun r30 M36 hG32 F31 p_33 p_34 p_35 => ?_)
  have n_37 : M36.1.2.1 = M.1.2.1 ∧ M36.1.2.2.1 = M.1.2.2.1 := by rw [F31.1]; exact ⟨rfl, rfl⟩
  refine to_popi (pc := 920) rw_0_920 (to_an (pc := 921) rw_0_921 rfl (to_an (pc := 922) rw_0_922 rfl (to_i (pc := 923) rw_0_923 rfl (to_c (pc := 925) rw_0_925 (x := (1 : Int32)) rfl rfl (s_addk (pc := 926) rw_0_926 (A := i.toInt) (B := 1) rfl rfl (by omega) (v := v9) e10 (s_x0k (pc := 927) rw_0_927 hL (A := v9.toInt) rfl (by omega) (by omega) (v := v11) e12 (to_an (pc := 928) rw_0_928 rfl (to_i (pc := 929) rw_0_929 rfl (to_c (pc := 931) rw_0_931 (x := (2 : Int32)) rfl rfl (s_addk (pc := 932) rw_0_932 (A := i.toInt) (B := 2) rfl rfl (by omega) (v := v13) e14 (s_x0k (pc := 933) rw_0_933 hL (A := v13.toInt) rfl (by omega) (by omega) (v := v15) e16 ?_)))))))))))
  refine s_i2l (pc := 934) rw_0_934 (fun l43 e44 => to_c (pc := 935) rw_0_935 (x := (32 : Int32)) rfl rfl (s_anyS (pc := 937) rw_0_937 (fun _ _ => rfl) (fun l45 => to_an (pc := 938) rw_0_938 rfl (to_i (pc := 939) rw_0_939 rfl (to_c (pc := 941) rw_0_941 (x := (3 : Int32)) rfl rfl (s_addk (pc := 942) rw_0_942 (A := i.toInt) (B := 3) rfl rfl (by omega) (v := v20) e21 (s_x0k (pc := 943) rw_0_943 hL (A := v20.toInt) rfl (by omega) (by omega) (v := v22) e23 (s_i2l (pc := 944) rw_0_944 (fun l48 e49 => s_cl (pc := 945) rw_0_945 rfl (fun l50 => s_anyL (pc := 948) rw_0_948 (fun _ _ => rfl) (fun l51 => s_anyL (pc := 949) rw_0_949 (fun _ _ => rfl) (fun l52 => ?_))))))))))))
  refine s_v (pc := 950) rw_0_950 (dp0 hd (by decide)) (ls0 := [.ref 77, .int v11, .long l52, .null, .null, .null]) rfl (Nat.le_of_ble_eq_true rfl) (Nat.le_of_ble_eq_true rfl) rfl (to_rc rfl rfl rfl (g_o hG32 rfl)) rfl ?_
  have j_53 := (NJ_f (tg_438 F31) jNJ)
  refine C_208 hX (dp1 hd (by decide)) hG32 j_53 (p := v11) (x := l52) (fun r54 M57 hG56 F55 => ?_)
  have n_58 : M57.1.2.1 = M36.1.2.1 ∧ M57.1.2.2.1 = M36.1.2.2.1 := by rw [F55.1]; exact ⟨rfl, rfl⟩
  refine to_popi (pc := 953) rw_0_953 (to_go (pc := 954) rw_0_954 ?_)
  have c_60 : M57.2.1 77 7 = (M.2.1 77 7) := (F_n F55 (show ¬ (77 = 77 ∧ 7 = 2 ∨ 94 ≤ 77 ∧ 77 ≤ 98) by decide) (F_n F31 (show ¬ (11 ≤ 77 ∧ 77 ≤ 16 ∨ 18 ≤ 77 ∧ 77 ≤ 48 ∨ 67 ≤ 77 ∧ 77 ≤ 76) by decide) rfl))
  have t_61 : (M57.2.1 77 7).toInt = (M.2.1 77 7).toInt := congrArg Int32.toInt c_60
  have c_62 : M57.2.1 77 6 = (M.2.1 77 6) := (F_n F55 (show ¬ (77 = 77 ∧ 6 = 2 ∨ 94 ≤ 77 ∧ 77 ≤ 98) by decide) (F_n F31 (show ¬ (11 ≤ 77 ∧ 77 ≤ 16 ∨ 18 ≤ 77 ∧ 77 ≤ 48 ∨ 67 ≤ 77 ∧ 77 ≤ 76) by decide) rfl))
  have t_63 : (M57.2.1 77 6).toInt = (M.2.1 77 6).toInt := congrArg Int32.toInt c_62
  have c_64 : M57.2.1 1 1 = (M.2.1 1 1) := (F_n F55 (show ¬ (1 = 77 ∧ 1 = 2 ∨ 94 ≤ 1 ∧ 1 ≤ 98) by decide) (F_n F31 (show ¬ (11 ≤ 1 ∧ 1 ≤ 16 ∨ 18 ≤ 1 ∧ 1 ≤ 48 ∨ 67 ≤ 1 ∧ 1 ≤ 76) by decide) rfl))
  have t_65 : (M57.2.1 1 1).toInt = (M.2.1 1 1).toInt := congrArg Int32.toInt c_64
  have c_66 : M57.2.1 77 1 = (M.2.1 77 1) := (F_n F55 (show ¬ (77 = 77 ∧ 1 = 2 ∨ 94 ≤ 77 ∧ 77 ≤ 98) by decide) (F_n F31 (show ¬ (11 ≤ 77 ∧ 77 ≤ 16 ∨ 18 ≤ 77 ∧ 77 ≤ 48 ∨ 67 ≤ 77 ∧ 77 ≤ 76) by decide) rfl))
  have t_67 : (M57.2.1 77 1).toInt = (M.2.1 77 1).toInt := congrArg Int32.toInt c_66
  have c_68 : M57.2.1 0 12 = (M.2.1 0 12) := (F_n F55 (show ¬ (0 = 77 ∧ 12 = 2 ∨ 94 ≤ 0 ∧ 0 ≤ 98) by decide) (F_n F31 (show ¬ (11 ≤ 0 ∧ 0 ≤ 16 ∨ 18 ≤ 0 ∧ 0 ≤ 48 ∨ 67 ≤ 0 ∧ 0 ≤ 76) by decide) rfl))
  have t_69 : (M57.2.1 0 12).toInt = (M.2.1 0 12).toInt := congrArg Int32.toInt c_68
  have c_70 : M57.2.1 77 28 = (M.2.1 77 28) := (F_n F55 (show ¬ (77 = 77 ∧ 28 = 2 ∨ 94 ≤ 77 ∧ 77 ≤ 98) by decide) (F_n F31 (show ¬ (11 ≤ 77 ∧ 77 ≤ 16 ∨ 18 ≤ 77 ∧ 77 ≤ 48 ∨ 67 ≤ 77 ∧ 77 ≤ 76) by decide) rfl))
  have t_71 : (M57.2.1 77 28).toInt = (M.2.1 77 28).toInt := congrArg Int32.toInt c_70
  have c_72 : M57.2.1 17 4 = (M.2.1 17 4) := (F_n F55 (show ¬ (17 = 77 ∧ 4 = 2 ∨ 94 ≤ 17 ∧ 17 ≤ 98) by decide) (F_n F31 (show ¬ (11 ≤ 17 ∧ 17 ≤ 16 ∨ 18 ≤ 17 ∧ 17 ≤ 48 ∨ 67 ≤ 17 ∧ 17 ≤ 76) by decide) rfl))
  have t_73 : (M57.2.1 17 4).toInt = (M.2.1 17 4).toInt := congrArg Int32.toInt c_72
  have c_74 : M57.2.1 77 41 = (M.2.1 77 41) := (F_n F55 (show ¬ (77 = 77 ∧ 41 = 2 ∨ 94 ≤ 77 ∧ 77 ≤ 98) by decide) (F_n F31 (show ¬ (11 ≤ 77 ∧ 77 ≤ 16 ∨ 18 ≤ 77 ∧ 77 ≤ 48 ∨ 67 ≤ 77 ∧ 77 ≤ 76) by decide) rfl))
  have t_75 : (M57.2.1 77 41).toInt = (M.2.1 77 41).toInt := congrArg Int32.toInt c_74
  have c_76 : M57.2.1 6 0 = (M.2.1 6 0) := (F_n F55 (show ¬ (6 = 77 ∧ 0 = 2 ∨ 94 ≤ 6 ∧ 6 ≤ 98) by decide) (F_n F31 (show ¬ (11 ≤ 6 ∧ 6 ≤ 16 ∨ 18 ≤ 6 ∧ 6 ≤ 48 ∨ 67 ≤ 6 ∧ 6 ≤ 76) by decide) rfl))
  have t_77 : (M57.2.1 6 0).toInt = (M.2.1 6 0).toInt := congrArg Int32.toInt c_76
  have c_78 : M57.2.1 77 29 = (M.2.1 77 29) := (F_n F55 (show ¬ (77 = 77 ∧ 29 = 2 ∨ 94 ≤ 77 ∧ 77 ≤ 98) by decide) (F_n F31 (show ¬ (11 ≤ 77 ∧ 77 ≤ 16 ∨ 18 ≤ 77 ∧ 77 ≤ 48 ∨ 67 ≤ 77 ∧ 77 ≤ 76) by decide) rfl))
  have t_79 : (M57.2.1 77 29).toInt = (M.2.1 77 29).toInt := congrArg Int32.toInt c_78
  have j_80 := (PI_f (tg_439 F55) p_33)
  have j_81 := (NI_f (tg_440 F55) p_34)
  have j_82 := (QI_f (tg_441 F55) p_35)
  have j_83 := (PQE_r F55.2.1 (PQE_r F31.2.1 jPQE))
  have j_84 := (FA_f (tg_442 F55) (FA_f (tg_443 F31) jFA))
  have j_85 := (WC_f (tg_444 F55) (WC_f (tg_445 F31) jWC))
  have j_86 := (NJ_f (tg_446 F55) j_53)
  have j_87 := (PS_f (tg_447 F55) (PS_f (tg_448 F31) jPS))
  have j_88 := (KQ_f (tg_449 F55) (KQ_f (tg_450 F31) jKQ))
  have j_89 := (TP_f (tg_451 F55) (TP_f (tg_452 F31) jTP))
  have j_90 := (W9_f (tg_453 F55) (W9_f (tg_454 F31) jW9))
  have j_91 := (AN_F F55 tg_501 (AN_F F31 tg_502 jAN))
  have j_92 := (NE_r F55.2.1 (NE_r F31.2.1 jNE))
  have j_93 := (W8_f (tg_455 F55) (W8_f (tg_456 F31) jW8))
  exact h M57 (u5) (u6) ⟨⟨⟨⟨⟨⟨⟨⟨hG56, ⟨j_80, j_81, j_82, j_83⟩, ⟨j_84, j_85, j_86, j_87, j_88⟩, by omega, by omega⟩, j_89, j_90⟩, j_92, by omega⟩, AN_a j_91⟩, by omega⟩, j_93⟩, by omega⟩, j_91⟩ (by omega) (by omega)
set_option maxRecDepth 4000 in
set_option maxHeartbeats 0 in
theorem LW_21 {X : mm_X} {d L : Nat} {M : mm_M} {Q : Option Value → mm_M → Prop} {i : Int32} {u5 u6 : Value} (hX : g_X X) (hW : g_W X) (hW2 : g_W2 X) (hL : (X 0).1 = L) (h3 : L ≤ 3072) (hd : 40 ≤ d) (hi : 0 ≤ i.toInt) (hi2 : i.toInt + 6 ≤ (L : Int)) (H : LI9 M) (h : ∀ (M1 : mm_M) (v5 v6 : Value), LI9 M1 → M1.1.2.1 ≤ M.1.2.1 + 1 → M1.1.2.2.1 ≤ M.1.2.2.1 + 6 → mm_T X d 0 1314 [.ref mm_ext, .ref 0, .ref 77, .ref 125, .int i, v5, v6] [] M1 Q) : mm_T X d 0 957 [.ref mm_ext, .ref 0, .ref 77, .ref 125, .int i, u5, u6] [] M Q := by
  obtain ⟨⟨⟨⟨⟨⟨⟨⟨hG, ⟨jPI, jNI, jQI, jPQE⟩, ⟨jFA, jWC, jNJ, jPS, jKQ⟩, jJ, jE⟩, jTP, jW9⟩, jNE, jCC⟩, -⟩, jOV⟩, jW8⟩, jNN⟩, jAN⟩ := H
  have b_1 := g_b hG (a := 77) (i := 7) (lo := 0) (hi := 500) rfl rfl
  have b_2 := g_b hG (a := 77) (i := 6) (lo := 0) (hi := 500) rfl rfl
  have b_3 := g_b hG (a := 1) (i := 1) (lo := 0) (hi := 500) rfl rfl
  have b_4 := g_b hG (a := 77) (i := 1) (lo := 0) (hi := 500) rfl rfl
  have b_5 := g_b hG (a := 0) (i := 12) (lo := 0) (hi := 30) rfl rfl
  have b_6 := g_b hG (a := 77) (i := 28) (lo := 0) (hi := 30) rfl rfl
  have b_7 := g_b hG (a := 6) (i := 0) (lo := 0) (hi := 150) rfl rfl
  have b_8 := g_b hG (a := 77) (i := 29) (lo := 0) (hi := 150) rfl rfl
  refine to_an (pc := 957) rw_0_957 rfl (s_v (pc := 958) rw_0_958 (dp0 hd (by decide)) (ls0 := [.ref 0, .null]) rfl (Nat.le_of_ble_eq_true rfl) (Nat.le_of_ble_eq_true rfl) rfl (to_rc rfl rfl rfl (g_o hG rfl)) rfl ?_)
  obtain ⟨pz9, pzz9, qz9, qzz9, hpz9, hpzz9, hqz9, hqzz9, hpqz9⟩ := id jPQE
  refine C_130 hX (dp1 hd (by decide)) hG hpz9 hpzz9 hqz9 hqzz9 hpqz9 jPI jNI jQI (p := pz9) (pz := pzz9) (q := qz9) (qz := qzz9) (fun r10 M18 hG12 F11 p_13 p_14 p_15 p_16 p_17 => ?_)
  have n_19 : M18.1.2.1 = M.1.2.1 ∧ M18.1.2.2.1 = M.1.2.2.1 := by rw [F11.1]; exact ⟨rfl, rfl⟩
  refine to_popi (pc := 961) rw_0_961 (to_an (pc := 962) rw_0_962 rfl (s_v (pc := 963) rw_0_963 (dp0 hd (by decide)) (ls0 := [.ref 77, .null]) rfl (Nat.le_of_ble_eq_true rfl) (Nat.le_of_ble_eq_true rfl) rfl (to_rc rfl rfl rfl (g_o hG12 rfl)) rfl ?_))
  have c_21 : M18.2.1 77 28 = (M.2.1 77 28) := (F_n F11 (show ¬ (17 ≤ 77 ∧ 77 ≤ 27) by decide) rfl)
  have t_22 : (M18.2.1 77 28).toInt = (M.2.1 77 28).toInt := congrArg Int32.toInt c_21
  refine C_209 hX (dp1 hd (by decide)) hG12  (fun r23 M29 hG25 F24 p_26 p_27 p_28 => ?_)
  have n_30 : M29.1.2.1 = M18.1.2.1 ∧ M29.1.2.2.1 = M18.1.2.2.1 := by rw [F24.1]; exact ⟨rfl, rfl⟩
  refine to_popi (pc := 966) rw_0_966 (to_go (pc := 967) rw_0_967 ?_)
  have c_32 : M29.2.1 77 7 = (M.2.1 77 7) := (F_n F24 (show ¬ (77 = 77 ∧ (7 = 2 ∨ 7 = 41) ∨ 77 = 99 ∨ 77 = 100) by decide) (F_n F11 (show ¬ (17 ≤ 77 ∧ 77 ≤ 27) by decide) rfl))
  have t_33 : (M29.2.1 77 7).toInt = (M.2.1 77 7).toInt := congrArg Int32.toInt c_32
  have c_34 : M29.2.1 77 6 = (M.2.1 77 6) := (F_n F24 (show ¬ (77 = 77 ∧ (6 = 2 ∨ 6 = 41) ∨ 77 = 99 ∨ 77 = 100) by decide) (F_n F11 (show ¬ (17 ≤ 77 ∧ 77 ≤ 27) by decide) rfl))
  have t_35 : (M29.2.1 77 6).toInt = (M.2.1 77 6).toInt := congrArg Int32.toInt c_34
  have c_36 : M29.2.1 1 1 = (M.2.1 1 1) := (F_n F24 (show ¬ (1 = 77 ∧ (1 = 2 ∨ 1 = 41) ∨ 1 = 99 ∨ 1 = 100) by decide) (F_n F11 (show ¬ (17 ≤ 1 ∧ 1 ≤ 27) by decide) rfl))
  have t_37 : (M29.2.1 1 1).toInt = (M.2.1 1 1).toInt := congrArg Int32.toInt c_36
  have c_38 : M29.2.1 77 1 = (M.2.1 77 1) := (F_n F24 (show ¬ (77 = 77 ∧ (1 = 2 ∨ 1 = 41) ∨ 77 = 99 ∨ 77 = 100) by decide) (F_n F11 (show ¬ (17 ≤ 77 ∧ 77 ≤ 27) by decide) rfl))
  have t_39 : (M29.2.1 77 1).toInt = (M.2.1 77 1).toInt := congrArg Int32.toInt c_38
  have c_40 : M29.2.1 0 12 = (M.2.1 0 12) := (F_n F24 (show ¬ (0 = 77 ∧ (12 = 2 ∨ 12 = 41) ∨ 0 = 99 ∨ 0 = 100) by decide) (F_n F11 (show ¬ (17 ≤ 0 ∧ 0 ≤ 27) by decide) rfl))
  have t_41 : (M29.2.1 0 12).toInt = (M.2.1 0 12).toInt := congrArg Int32.toInt c_40
  have c_42 : M29.2.1 77 28 = (M.2.1 77 28) := (F_n F24 (show ¬ (77 = 77 ∧ (28 = 2 ∨ 28 = 41) ∨ 77 = 99 ∨ 77 = 100) by decide) c_21)
  have t_43 : (M29.2.1 77 28).toInt = (M.2.1 77 28).toInt := congrArg Int32.toInt c_42
  have c_44 : M29.2.1 17 4 = (M18.2.1 17 4) := (F_n F24 (show ¬ (17 = 77 ∧ (4 = 2 ∨ 4 = 41) ∨ 17 = 99 ∨ 17 = 100) by decide) rfl)
  have t_45 : (M29.2.1 17 4).toInt = (M18.2.1 17 4).toInt := congrArg Int32.toInt c_44
  have c_46 : M29.2.1 6 0 = (M.2.1 6 0) := (F_n F24 (show ¬ (6 = 77 ∧ (0 = 2 ∨ 0 = 41) ∨ 6 = 99 ∨ 6 = 100) by decide) (F_n F11 (show ¬ (17 ≤ 6 ∧ 6 ≤ 27) by decide) rfl))
  have t_47 : (M29.2.1 6 0).toInt = (M.2.1 6 0).toInt := congrArg Int32.toInt c_46
  have c_48 : M29.2.1 77 29 = (M.2.1 77 29) := (F_n F24 (show ¬ (77 = 77 ∧ (29 = 2 ∨ 29 = 41) ∨ 77 = 99 ∨ 77 = 100) by decide) (F_n F11 (show ¬ (17 ≤ 77 ∧ 77 ≤ 27) by decide) rfl))
  have t_49 : (M29.2.1 77 29).toInt = (M.2.1 77 29).toInt := congrArg Int32.toInt c_48
  have j_50 := (PI_f (tg_523 F24) p_15)
  have j_51 := (NI_f (tg_524 F24) p_16)
  have j_52 := (QI_f (tg_525 F24) p_17)
  have j_53 := (PQE_r F24.2.1 (PQE_r F11.2.1 jPQE))
  have j_54 := (FA_f (tg_526 F24) (FA_f (tg_527 F11) jFA))
  have j_55 := (WC_f (tg_528 F24) (WC_f (tg_529 F11) jWC))
  have j_56 := (NJ_f (tg_530 F24) (NJ_f (tg_531 F11) jNJ))
  have j_57 := (KQ_f (tg_532 F24) (KQ_f (tg_533 F11) jKQ))
  have j_58 := (TP_f (tg_534 F24) (TP_f (tg_535 F11) jTP))
  have j_59 := (W9_f (tg_536 F24) (W9_f (tg_537 F11) jW9))
  have j_60 := (AN_F F24 tg_608 (AN_F F11 tg_609 jAN))
  have j_61 := (NE_r F24.2.1 (NE_r F11.2.1 jNE))
  have j_62 := (W8_f (tg_538 F24) (W8_f (tg_539 F11) jW8))
  exact h M29 (u5) (u6) ⟨⟨⟨⟨⟨⟨⟨⟨hG25, ⟨j_50, j_51, j_52, j_53⟩, ⟨j_54, j_55, j_56, p_28, j_57⟩, by omega, by omega⟩, j_58, j_59⟩, j_61, by omega⟩, AN_a j_60⟩, by omega⟩, j_62⟩, by omega⟩, j_60⟩ (by omega) (by omega)
set_option maxRecDepth 4000 in
set_option maxHeartbeats 0 in
theorem LW_22 {X : mm_X} {d L : Nat} {M : mm_M} {Q : Option Value → mm_M → Prop} {i : Int32} {u5 u6 : Value} (hX : g_X X) (hW : g_W X) (hW2 : g_W2 X) (hL : (X 0).1 = L) (h3 : L ≤ 3072) (hd : 40 ≤ d) (hi : 0 ≤ i.toInt) (hi2 : i.toInt + 6 ≤ (L : Int)) (H : LI9 M) (h : ∀ (M1 : mm_M) (v5 v6 : Value), LI9 M1 → M1.1.2.1 ≤ M.1.2.1 + 1 → M1.1.2.2.1 ≤ M.1.2.2.1 + 6 → mm_T X d 0 1314 [.ref mm_ext, .ref 0, .ref 77, .ref 125, .int i, v5, v6] [] M1 Q) : mm_T X d 0 970 [.ref mm_ext, .ref 0, .ref 77, .ref 125, .int i, u5, u6] [] M Q := by
  obtain ⟨⟨⟨⟨⟨⟨⟨⟨hG, ⟨jPI, jNI, jQI, jPQE⟩, ⟨jFA, jWC, jNJ, jPS, jKQ⟩, jJ, jE⟩, jTP, jW9⟩, jNE, jCC⟩, -⟩, jOV⟩, jW8⟩, jNN⟩, jAN⟩ := H
  have b_1 := g_b hG (a := 77) (i := 7) (lo := 0) (hi := 500) rfl rfl
  have b_2 := g_b hG (a := 77) (i := 6) (lo := 0) (hi := 500) rfl rfl
  have b_3 := g_b hG (a := 1) (i := 1) (lo := 0) (hi := 500) rfl rfl
  have b_4 := g_b hG (a := 77) (i := 1) (lo := 0) (hi := 500) rfl rfl
  have b_5 := g_b hG (a := 0) (i := 12) (lo := 0) (hi := 30) rfl rfl
  have b_6 := g_b hG (a := 77) (i := 28) (lo := 0) (hi := 30) rfl rfl
  have b_7 := g_b hG (a := 6) (i := 0) (lo := 0) (hi := 150) rfl rfl
  have b_8 := g_b hG (a := 77) (i := 29) (lo := 0) (hi := 150) rfl rfl
  refine to_an (pc := 970) rw_0_970 rfl (to_an (pc := 971) rw_0_971 rfl (to_i (pc := 972) rw_0_972 rfl (to_c (pc := 974) rw_0_974 (x := (1 : Int32)) rfl rfl (s_add (pc := 975) rw_0_975 (A := i.toInt) (B := 1) rfl rfl (by omega) (fun v9 e10 => s_x0 (pc := 976) rw_0_976 hL (A := v9.toInt) rfl (by omega) (by omega) (fun v11 e12 => to_an (pc := 977) rw_0_977 rfl (to_i (pc := 978) rw_0_978 rfl (to_c (pc := 980) rw_0_980 (x := (2 : Int32)) rfl rfl (s_add (pc := 981) rw_0_981 (A := i.toInt) (B := 2) rfl rfl (by omega) (fun v13 e14 => s_x0 (pc := 982) rw_0_982 hL (A := v13.toInt) rfl (by omega) (by omega) (fun v15 e16 => s_v (pc := 983) rw_0_983 (dp0 hd (by decide)) (ls0 := [.ref 0, .int v11, .int v15, .null, .null]) rfl (Nat.le_of_ble_eq_true rfl) (Nat.le_of_ble_eq_true rfl) rfl (to_rc rfl rfl rfl (g_o hG rfl)) rfl ?_)))))))))))
  obtain ⟨pz17, pzz17, qz17, qzz17, hpz17, hpzz17, hqz17, hqzz17, hpqz17⟩ := id jPQE
  refine C_131 hX (dp1 hd (by decide)) hG hpz17 hpzz17 hqz17 hqzz17 hpqz17 jNI jQI (n := v11) (w := v15) (p := pz17) (pz := pzz17) (q := qz17) (qz := qzz17) (fun r18 M21 hG20 F19 => ?_)
  have n_22 : M21.1.2.1 = M.1.2.1 ∧ M21.1.2.2.1 = M.1.2.2.1 := by rw [F19.1]; exact ⟨rfl, rfl⟩
  refine to_popi (pc := 986) rw_0_986 (to_an (pc := 987) rw_0_987 rfl (to_an (pc := 988) rw_0_988 rfl (to_i (pc := 989) rw_0_989 rfl (to_c (pc := 991) rw_0_991 (x := (1 : Int32)) rfl rfl (s_addk (pc := 992) rw_0_992 (A := i.toInt) (B := 1) rfl rfl (by omega) (v := v9) e10 (s_x0k (pc := 993) rw_0_993 hL (A := v9.toInt) rfl (by omega) (by omega) (v := v11) e12 (to_an (pc := 994) rw_0_994 rfl (to_i (pc := 995) rw_0_995 rfl (to_c (pc := 997) rw_0_997 (x := (2 : Int32)) rfl rfl (s_addk (pc := 998) rw_0_998 (A := i.toInt) (B := 2) rfl rfl (by omega) (v := v13) e14 (s_x0k (pc := 999) rw_0_999 hL (A := v13.toInt) rfl (by omega) (by omega) (v := v15) e16 ?_)))))))))))
  refine s_v (pc := 1000) rw_0_1000 (dp0 hd (by decide)) (ls0 := [.ref 77, .int v11, .int v15, .null, .null, .null]) rfl (Nat.le_of_ble_eq_true rfl) (Nat.le_of_ble_eq_true rfl) rfl (to_rc rfl rfl rfl (g_o hG20 rfl)) rfl ?_
  have j_28 := (NJ_f (tg_540 F19) jNJ)
  have j_29 := (KQ_f (tg_541 F19) jKQ)
  refine C_229 hX (dp1 hd (by decide)) hG20 j_28 j_29 (n := v11) (w := v15) (fun r30 M33 hG32 F31 => ?_)
  have n_34 : M33.1.2.1 = M21.1.2.1 ∧ M33.1.2.2.1 = M21.1.2.2.1 := by rw [F31.1]; exact ⟨rfl, rfl⟩
  refine to_popi (pc := 1003) rw_0_1003 (to_go (pc := 1004) rw_0_1004 ?_)
  have c_36 : M33.2.1 77 7 = (M.2.1 77 7) := (F_n F31 (show ¬ (77 = 77 ∧ 7 = 2 ∨ 94 ≤ 77 ∧ 77 ≤ 98 ∨ 77 = 117) by decide) (F_n F19 (show ¬ (11 ≤ 77 ∧ 77 ≤ 16 ∨ 77 = 71 ∨ 77 = 76) by decide) rfl))
  have t_37 : (M33.2.1 77 7).toInt = (M.2.1 77 7).toInt := congrArg Int32.toInt c_36
  have c_38 : M33.2.1 77 6 = (M.2.1 77 6) := (F_n F31 (show ¬ (77 = 77 ∧ 6 = 2 ∨ 94 ≤ 77 ∧ 77 ≤ 98 ∨ 77 = 117) by decide) (F_n F19 (show ¬ (11 ≤ 77 ∧ 77 ≤ 16 ∨ 77 = 71 ∨ 77 = 76) by decide) rfl))
  have t_39 : (M33.2.1 77 6).toInt = (M.2.1 77 6).toInt := congrArg Int32.toInt c_38
  have c_40 : M33.2.1 1 1 = (M.2.1 1 1) := (F_n F31 (show ¬ (1 = 77 ∧ 1 = 2 ∨ 94 ≤ 1 ∧ 1 ≤ 98 ∨ 1 = 117) by decide) (F_n F19 (show ¬ (11 ≤ 1 ∧ 1 ≤ 16 ∨ 1 = 71 ∨ 1 = 76) by decide) rfl))
  have t_41 : (M33.2.1 1 1).toInt = (M.2.1 1 1).toInt := congrArg Int32.toInt c_40
  have c_42 : M33.2.1 77 1 = (M.2.1 77 1) := (F_n F31 (show ¬ (77 = 77 ∧ 1 = 2 ∨ 94 ≤ 77 ∧ 77 ≤ 98 ∨ 77 = 117) by decide) (F_n F19 (show ¬ (11 ≤ 77 ∧ 77 ≤ 16 ∨ 77 = 71 ∨ 77 = 76) by decide) rfl))
  have t_43 : (M33.2.1 77 1).toInt = (M.2.1 77 1).toInt := congrArg Int32.toInt c_42
  have c_44 : M33.2.1 0 12 = (M.2.1 0 12) := (F_n F31 (show ¬ (0 = 77 ∧ 12 = 2 ∨ 94 ≤ 0 ∧ 0 ≤ 98 ∨ 0 = 117) by decide) (F_n F19 (show ¬ (11 ≤ 0 ∧ 0 ≤ 16 ∨ 0 = 71 ∨ 0 = 76) by decide) rfl))
  have t_45 : (M33.2.1 0 12).toInt = (M.2.1 0 12).toInt := congrArg Int32.toInt c_44
  have c_46 : M33.2.1 77 28 = (M.2.1 77 28) := (F_n F31 (show ¬ (77 = 77 ∧ 28 = 2 ∨ 94 ≤ 77 ∧ 77 ≤ 98 ∨ 77 = 117) by decide) (F_n F19 (show ¬ (11 ≤ 77 ∧ 77 ≤ 16 ∨ 77 = 71 ∨ 77 = 76) by decide) rfl))
  have t_47 : (M33.2.1 77 28).toInt = (M.2.1 77 28).toInt := congrArg Int32.toInt c_46
  have c_48 : M33.2.1 17 4 = (M.2.1 17 4) := (F_n F31 (show ¬ (17 = 77 ∧ 4 = 2 ∨ 94 ≤ 17 ∧ 17 ≤ 98 ∨ 17 = 117) by decide) (F_n F19 (show ¬ (11 ≤ 17 ∧ 17 ≤ 16 ∨ 17 = 71 ∨ 17 = 76) by decide) rfl))
  have t_49 : (M33.2.1 17 4).toInt = (M.2.1 17 4).toInt := congrArg Int32.toInt c_48
  have c_50 : M33.2.1 77 41 = (M.2.1 77 41) := (F_n F31 (show ¬ (77 = 77 ∧ 41 = 2 ∨ 94 ≤ 77 ∧ 77 ≤ 98 ∨ 77 = 117) by decide) (F_n F19 (show ¬ (11 ≤ 77 ∧ 77 ≤ 16 ∨ 77 = 71 ∨ 77 = 76) by decide) rfl))
  have t_51 : (M33.2.1 77 41).toInt = (M.2.1 77 41).toInt := congrArg Int32.toInt c_50
  have c_52 : M33.2.1 6 0 = (M.2.1 6 0) := (F_n F31 (show ¬ (6 = 77 ∧ 0 = 2 ∨ 94 ≤ 6 ∧ 6 ≤ 98 ∨ 6 = 117) by decide) (F_n F19 (show ¬ (11 ≤ 6 ∧ 6 ≤ 16 ∨ 6 = 71 ∨ 6 = 76) by decide) rfl))
  have t_53 : (M33.2.1 6 0).toInt = (M.2.1 6 0).toInt := congrArg Int32.toInt c_52
  have c_54 : M33.2.1 77 29 = (M.2.1 77 29) := (F_n F31 (show ¬ (77 = 77 ∧ 29 = 2 ∨ 94 ≤ 77 ∧ 77 ≤ 98 ∨ 77 = 117) by decide) (F_n F19 (show ¬ (11 ≤ 77 ∧ 77 ≤ 16 ∨ 77 = 71 ∨ 77 = 76) by decide) rfl))
  have t_55 : (M33.2.1 77 29).toInt = (M.2.1 77 29).toInt := congrArg Int32.toInt c_54
  have j_56 := (PI_f (tg_542 F31) (PI_f (tg_543 F19) jPI))
  have j_57 := (NI_f (tg_544 F31) (NI_f (tg_545 F19) jNI))
  have j_58 := (QI_f (tg_546 F31) (QI_f (tg_547 F19) jQI))
  have j_59 := (PQE_r F31.2.1 (PQE_r F19.2.1 jPQE))
  have j_60 := (FA_f (tg_548 F31) (FA_f (tg_549 F19) jFA))
  have j_61 := (WC_f (tg_550 F31) (WC_f (tg_551 F19) jWC))
  have j_62 := (NJ_f (tg_552 F31) j_28)
  have j_63 := (PS_f (tg_553 F31) (PS_f (tg_554 F19) jPS))
  have j_64 := (KQ_f (tg_555 F31) j_29)
  have j_65 := (TP_f (tg_556 F31) (TP_f (tg_557 F19) jTP))
  have j_66 := (W9_f (tg_558 F31) (W9_f (tg_559 F19) jW9))
  have j_67 := (AN_F F31 tg_610 (AN_F F19 tg_611 jAN))
  have j_68 := (NE_r F31.2.1 (NE_r F19.2.1 jNE))
  have j_69 := (W8_f (tg_560 F31) (W8_f (tg_561 F19) jW8))
  exact h M33 (u5) (u6) ⟨⟨⟨⟨⟨⟨⟨⟨hG32, ⟨j_56, j_57, j_58, j_59⟩, ⟨j_60, j_61, j_62, j_63, j_64⟩, by omega, by omega⟩, j_65, j_66⟩, j_68, by omega⟩, AN_a j_67⟩, by omega⟩, j_69⟩, by omega⟩, j_67⟩ (by omega) (by omega)
set_option maxRecDepth 4000 in
set_option maxHeartbeats 0 in
theorem LW_23 {X : mm_X} {d L : Nat} {M : mm_M} {Q : Option Value → mm_M → Prop} {i : Int32} {u5 u6 : Value} (hX : g_X X) (hW : g_W X) (hW2 : g_W2 X) (hL : (X 0).1 = L) (h3 : L ≤ 3072) (hd : 40 ≤ d) (hi : 0 ≤ i.toInt) (hi2 : i.toInt + 6 ≤ (L : Int)) (H : LI9 M) (h : ∀ (M1 : mm_M) (v5 v6 : Value), LI9 M1 → M1.1.2.1 ≤ M.1.2.1 + 1 → M1.1.2.2.1 ≤ M.1.2.2.1 + 6 → mm_T X d 0 1314 [.ref mm_ext, .ref 0, .ref 77, .ref 125, .int i, v5, v6] [] M1 Q) : mm_T X d 0 1007 [.ref mm_ext, .ref 0, .ref 77, .ref 125, .int i, u5, u6] [] M Q := by
  obtain ⟨⟨⟨⟨⟨⟨⟨⟨hG, ⟨jPI, jNI, jQI, jPQE⟩, ⟨jFA, jWC, jNJ, jPS, jKQ⟩, jJ, jE⟩, jTP, jW9⟩, jNE, jCC⟩, -⟩, jOV⟩, jW8⟩, jNN⟩, jAN⟩ := H
  have b_1 := g_b hG (a := 77) (i := 7) (lo := 0) (hi := 500) rfl rfl
  have b_2 := g_b hG (a := 77) (i := 6) (lo := 0) (hi := 500) rfl rfl
  have b_3 := g_b hG (a := 1) (i := 1) (lo := 0) (hi := 500) rfl rfl
  have b_4 := g_b hG (a := 77) (i := 1) (lo := 0) (hi := 500) rfl rfl
  have b_5 := g_b hG (a := 0) (i := 12) (lo := 0) (hi := 30) rfl rfl
  have b_6 := g_b hG (a := 77) (i := 28) (lo := 0) (hi := 30) rfl rfl
  have b_7 := g_b hG (a := 6) (i := 0) (lo := 0) (hi := 150) rfl rfl
  have b_8 := g_b hG (a := 77) (i := 29) (lo := 0) (hi := 150) rfl rfl
  refine to_an (pc := 1007) rw_0_1007 rfl (to_an (pc := 1008) rw_0_1008 rfl (to_i (pc := 1009) rw_0_1009 rfl (to_c (pc := 1011) rw_0_1011 (x := (1 : Int32)) rfl rfl (s_add (pc := 1012) rw_0_1012 (A := i.toInt) (B := 1) rfl rfl (by omega) (fun v9 e10 => s_x0 (pc := 1013) rw_0_1013 hL (A := v9.toInt) rfl (by omega) (by omega) (fun v11 e12 => to_an (pc := 1014) rw_0_1014 rfl (to_i (pc := 1015) rw_0_1015 rfl (to_c (pc := 1017) rw_0_1017 (x := (2 : Int32)) rfl rfl (s_add (pc := 1018) rw_0_1018 (A := i.toInt) (B := 2) rfl rfl (by omega) (fun v13 e14 => s_x0 (pc := 1019) rw_0_1019 hL (A := v13.toInt) rfl (by omega) (by omega) (fun v15 e16 => to_an (pc := 1020) rw_0_1020 rfl ?_)))))))))))
  refine to_i (pc := 1021) rw_0_1021 rfl (to_c (pc := 1023) rw_0_1023 (x := (3 : Int32)) rfl rfl (s_add (pc := 1024) rw_0_1024 (A := i.toInt) (B := 3) rfl rfl (by omega) (fun v17 e18 => s_x0 (pc := 1025) rw_0_1025 hL (A := v17.toInt) rfl (by omega) (by omega) (fun v19 e20 => s_v (pc := 1026) rw_0_1026 (dp0 hd (by decide)) (ls0 := [.ref 0, .int v11, .int v15, .int v19, .null, .null, .null, .null, .null]) rfl (Nat.le_of_ble_eq_true rfl) (Nat.le_of_ble_eq_true rfl) rfl (to_rc rfl rfl rfl (g_o hG rfl)) rfl ?_))))
  obtain ⟨pz21, pzz21, qz21, qzz21, hpz21, hpzz21, hqz21, hqzz21, hpqz21⟩ := id jPQE
  refine C_132 hX (dp1 hd (by decide)) hG hpz21 hpzz21 hqz21 hqzz21 hpqz21 jNI jPI jQI (n := v11) (w := v15) (k := v19) (p := pz21) (pz := pzz21) (q := qz21) (qz := qzz21) (fun r22 M28 hG24 F23 p_25 p_26 p_27 => ?_)
  have n_29 : M28.1.2.1 = M.1.2.1 ∧ M28.1.2.2.1 = M.1.2.2.1 := by rw [F23.1]; exact ⟨rfl, rfl⟩
  refine s_pop2 (pc := 1029) rw_0_1029 (to_an (pc := 1030) rw_0_1030 rfl (to_an (pc := 1031) rw_0_1031 rfl (to_i (pc := 1032) rw_0_1032 rfl (to_c (pc := 1034) rw_0_1034 (x := (1 : Int32)) rfl rfl (s_addk (pc := 1035) rw_0_1035 (A := i.toInt) (B := 1) rfl rfl (by omega) (v := v9) e10 (s_x0k (pc := 1036) rw_0_1036 hL (A := v9.toInt) rfl (by omega) (by omega) (v := v11) e12 (to_an (pc := 1037) rw_0_1037 rfl (to_i (pc := 1038) rw_0_1038 rfl (to_c (pc := 1040) rw_0_1040 (x := (2 : Int32)) rfl rfl (s_addk (pc := 1041) rw_0_1041 (A := i.toInt) (B := 2) rfl rfl (by omega) (v := v13) e14 (s_x0k (pc := 1042) rw_0_1042 hL (A := v13.toInt) rfl (by omega) (by omega) (v := v15) e16 ?_)))))))))))
  refine to_an (pc := 1043) rw_0_1043 rfl (to_i (pc := 1044) rw_0_1044 rfl (to_c (pc := 1046) rw_0_1046 (x := (3 : Int32)) rfl rfl (s_addk (pc := 1047) rw_0_1047 (A := i.toInt) (B := 3) rfl rfl (by omega) (v := v17) e18 (s_x0k (pc := 1048) rw_0_1048 hL (A := v17.toInt) rfl (by omega) (by omega) (v := v19) e20 (s_v (pc := 1049) rw_0_1049 (dp0 hd (by decide)) (ls0 := [.ref 77, .int v11, .int v15, .int v19, .null, .null, .null, .null]) rfl (Nat.le_of_ble_eq_true rfl) (Nat.le_of_ble_eq_true rfl) rfl (to_rc rfl rfl rfl (g_o hG24 rfl)) rfl ?_)))))
  have j_37 := (NJ_f (tg_438 F23) jNJ)
  refine C_233 hX (dp1 hd (by decide)) hG24 j_37 (n := v11) (w := v15) (k := v19) (fun r38 M41 hG40 F39 => ?_)
  have n_42 : M41.1.2.1 = M28.1.2.1 ∧ M41.1.2.2.1 = M28.1.2.2.1 := by rw [F39.1]; exact ⟨rfl, rfl⟩
  refine s_pop2 (pc := 1052) rw_0_1052 (to_go (pc := 1053) rw_0_1053 ?_)
  have c_44 : M41.2.1 77 7 = (M.2.1 77 7) := (F_n F39 (show ¬ (77 = 77 ∧ 7 = 2 ∨ 94 ≤ 77 ∧ 77 ≤ 98) by decide) (F_n F23 (show ¬ (11 ≤ 77 ∧ 77 ≤ 16 ∨ 18 ≤ 77 ∧ 77 ≤ 48 ∨ 67 ≤ 77 ∧ 77 ≤ 76) by decide) rfl))
  have t_45 : (M41.2.1 77 7).toInt = (M.2.1 77 7).toInt := congrArg Int32.toInt c_44
  have c_46 : M41.2.1 77 6 = (M.2.1 77 6) := (F_n F39 (show ¬ (77 = 77 ∧ 6 = 2 ∨ 94 ≤ 77 ∧ 77 ≤ 98) by decide) (F_n F23 (show ¬ (11 ≤ 77 ∧ 77 ≤ 16 ∨ 18 ≤ 77 ∧ 77 ≤ 48 ∨ 67 ≤ 77 ∧ 77 ≤ 76) by decide) rfl))
  have t_47 : (M41.2.1 77 6).toInt = (M.2.1 77 6).toInt := congrArg Int32.toInt c_46
  have c_48 : M41.2.1 1 1 = (M.2.1 1 1) := (F_n F39 (show ¬ (1 = 77 ∧ 1 = 2 ∨ 94 ≤ 1 ∧ 1 ≤ 98) by decide) (F_n F23 (show ¬ (11 ≤ 1 ∧ 1 ≤ 16 ∨ 18 ≤ 1 ∧ 1 ≤ 48 ∨ 67 ≤ 1 ∧ 1 ≤ 76) by decide) rfl))
  have t_49 : (M41.2.1 1 1).toInt = (M.2.1 1 1).toInt := congrArg Int32.toInt c_48
  have c_50 : M41.2.1 77 1 = (M.2.1 77 1) := (F_n F39 (show ¬ (77 = 77 ∧ 1 = 2 ∨ 94 ≤ 77 ∧ 77 ≤ 98) by decide) (F_n F23 (show ¬ (11 ≤ 77 ∧ 77 ≤ 16 ∨ 18 ≤ 77 ∧ 77 ≤ 48 ∨ 67 ≤ 77 ∧ 77 ≤ 76) by decide) rfl))
  have t_51 : (M41.2.1 77 1).toInt = (M.2.1 77 1).toInt := congrArg Int32.toInt c_50
  have c_52 : M41.2.1 0 12 = (M.2.1 0 12) := (F_n F39 (show ¬ (0 = 77 ∧ 12 = 2 ∨ 94 ≤ 0 ∧ 0 ≤ 98) by decide) (F_n F23 (show ¬ (11 ≤ 0 ∧ 0 ≤ 16 ∨ 18 ≤ 0 ∧ 0 ≤ 48 ∨ 67 ≤ 0 ∧ 0 ≤ 76) by decide) rfl))
  have t_53 : (M41.2.1 0 12).toInt = (M.2.1 0 12).toInt := congrArg Int32.toInt c_52
  have c_54 : M41.2.1 77 28 = (M.2.1 77 28) := (F_n F39 (show ¬ (77 = 77 ∧ 28 = 2 ∨ 94 ≤ 77 ∧ 77 ≤ 98) by decide) (F_n F23 (show ¬ (11 ≤ 77 ∧ 77 ≤ 16 ∨ 18 ≤ 77 ∧ 77 ≤ 48 ∨ 67 ≤ 77 ∧ 77 ≤ 76) by decide) rfl))
  have t_55 : (M41.2.1 77 28).toInt = (M.2.1 77 28).toInt := congrArg Int32.toInt c_54
  have c_56 : M41.2.1 17 4 = (M.2.1 17 4) := (F_n F39 (show ¬ (17 = 77 ∧ 4 = 2 ∨ 94 ≤ 17 ∧ 17 ≤ 98) by decide) (F_n F23 (show ¬ (11 ≤ 17 ∧ 17 ≤ 16 ∨ 18 ≤ 17 ∧ 17 ≤ 48 ∨ 67 ≤ 17 ∧ 17 ≤ 76) by decide) rfl))
  have t_57 : (M41.2.1 17 4).toInt = (M.2.1 17 4).toInt := congrArg Int32.toInt c_56
  have c_58 : M41.2.1 77 41 = (M.2.1 77 41) := (F_n F39 (show ¬ (77 = 77 ∧ 41 = 2 ∨ 94 ≤ 77 ∧ 77 ≤ 98) by decide) (F_n F23 (show ¬ (11 ≤ 77 ∧ 77 ≤ 16 ∨ 18 ≤ 77 ∧ 77 ≤ 48 ∨ 67 ≤ 77 ∧ 77 ≤ 76) by decide) rfl))
  have t_59 : (M41.2.1 77 41).toInt = (M.2.1 77 41).toInt := congrArg Int32.toInt c_58
  have c_60 : M41.2.1 6 0 = (M.2.1 6 0) := (F_n F39 (show ¬ (6 = 77 ∧ 0 = 2 ∨ 94 ≤ 6 ∧ 6 ≤ 98) by decide) (F_n F23 (show ¬ (11 ≤ 6 ∧ 6 ≤ 16 ∨ 18 ≤ 6 ∧ 6 ≤ 48 ∨ 67 ≤ 6 ∧ 6 ≤ 76) by decide) rfl))
  have t_61 : (M41.2.1 6 0).toInt = (M.2.1 6 0).toInt := congrArg Int32.toInt c_60
  have c_62 : M41.2.1 77 29 = (M.2.1 77 29) := (F_n F39 (show ¬ (77 = 77 ∧ 29 = 2 ∨ 94 ≤ 77 ∧ 77 ≤ 98) by decide) (F_n F23 (show ¬ (11 ≤ 77 ∧ 77 ≤ 16 ∨ 18 ≤ 77 ∧ 77 ≤ 48 ∨ 67 ≤ 77 ∧ 77 ≤ 76) by decide) rfl))
  have t_63 : (M41.2.1 77 29).toInt = (M.2.1 77 29).toInt := congrArg Int32.toInt c_62
  have j_64 := (PI_f (tg_439 F39) p_25)
  have j_65 := (NI_f (tg_440 F39) p_26)
  have j_66 := (QI_f (tg_441 F39) p_27)
  have j_67 := (PQE_r F39.2.1 (PQE_r F23.2.1 jPQE))
  have j_68 := (FA_f (tg_442 F39) (FA_f (tg_443 F23) jFA))
  have j_69 := (WC_f (tg_444 F39) (WC_f (tg_445 F23) jWC))
  have j_70 := (NJ_f (tg_446 F39) j_37)
  have j_71 := (PS_f (tg_447 F39) (PS_f (tg_448 F23) jPS))
  have j_72 := (KQ_f (tg_449 F39) (KQ_f (tg_450 F23) jKQ))
  have j_73 := (TP_f (tg_451 F39) (TP_f (tg_452 F23) jTP))
  have j_74 := (W9_f (tg_453 F39) (W9_f (tg_454 F23) jW9))
  have j_75 := (AN_F F39 tg_501 (AN_F F23 tg_502 jAN))
  have j_76 := (NE_r F39.2.1 (NE_r F23.2.1 jNE))
  have j_77 := (W8_f (tg_455 F39) (W8_f (tg_456 F23) jW8))
  exact h M41 (u5) (u6) ⟨⟨⟨⟨⟨⟨⟨⟨hG40, ⟨j_64, j_65, j_66, j_67⟩, ⟨j_68, j_69, j_70, j_71, j_72⟩, by omega, by omega⟩, j_73, j_74⟩, j_76, by omega⟩, AN_a j_75⟩, by omega⟩, j_77⟩, by omega⟩, j_75⟩ (by omega) (by omega)
set_option maxRecDepth 4000 in
set_option maxHeartbeats 0 in
theorem LW_24 {X : mm_X} {d L : Nat} {M : mm_M} {Q : Option Value → mm_M → Prop} {i : Int32} {u5 u6 : Value} (hX : g_X X) (hW : g_W X) (hW2 : g_W2 X) (hL : (X 0).1 = L) (h3 : L ≤ 3072) (hd : 40 ≤ d) (hi : 0 ≤ i.toInt) (hi2 : i.toInt + 6 ≤ (L : Int)) (H : LI9 M) (h : ∀ (M1 : mm_M) (v5 v6 : Value), LI9 M1 → M1.1.2.1 ≤ M.1.2.1 + 1 → M1.1.2.2.1 ≤ M.1.2.2.1 + 6 → mm_T X d 0 1314 [.ref mm_ext, .ref 0, .ref 77, .ref 125, .int i, v5, v6] [] M1 Q) : mm_T X d 0 1056 [.ref mm_ext, .ref 0, .ref 77, .ref 125, .int i, u5, u6] [] M Q := by
  obtain ⟨⟨⟨⟨⟨⟨⟨⟨hG, ⟨jPI, jNI, jQI, jPQE⟩, ⟨jFA, jWC, jNJ, jPS, jKQ⟩, jJ, jE⟩, jTP, jW9⟩, jNE, jCC⟩, -⟩, jOV⟩, jW8⟩, jNN⟩, jAN⟩ := H
  have b_1 := g_b hG (a := 77) (i := 7) (lo := 0) (hi := 500) rfl rfl
  have b_2 := g_b hG (a := 77) (i := 6) (lo := 0) (hi := 500) rfl rfl
  have b_3 := g_b hG (a := 1) (i := 1) (lo := 0) (hi := 500) rfl rfl
  have b_4 := g_b hG (a := 77) (i := 1) (lo := 0) (hi := 500) rfl rfl
  have b_5 := g_b hG (a := 0) (i := 12) (lo := 0) (hi := 30) rfl rfl
  have b_6 := g_b hG (a := 77) (i := 28) (lo := 0) (hi := 30) rfl rfl
  have b_7 := g_b hG (a := 6) (i := 0) (lo := 0) (hi := 150) rfl rfl
  have b_8 := g_b hG (a := 77) (i := 29) (lo := 0) (hi := 150) rfl rfl
  refine to_an (pc := 1056) rw_0_1056 rfl (to_an (pc := 1057) rw_0_1057 rfl (to_i (pc := 1058) rw_0_1058 rfl (to_c (pc := 1060) rw_0_1060 (x := (1 : Int32)) rfl rfl (s_add (pc := 1061) rw_0_1061 (A := i.toInt) (B := 1) rfl rfl (by omega) (fun v9 e10 => s_x0 (pc := 1062) rw_0_1062 hL (A := v9.toInt) rfl (by omega) (by omega) (fun v11 e12 => to_an (pc := 1063) rw_0_1063 rfl (to_i (pc := 1064) rw_0_1064 rfl (to_c (pc := 1066) rw_0_1066 (x := (2 : Int32)) rfl rfl (s_add (pc := 1067) rw_0_1067 (A := i.toInt) (B := 2) rfl rfl (by omega) (fun v13 e14 => s_x0 (pc := 1068) rw_0_1068 hL (A := v13.toInt) rfl (by omega) (by omega) (fun v15 e16 => s_v (pc := 1069) rw_0_1069 (dp0 hd (by decide)) (ls0 := [.ref 0, .int v11, .int v15, .null, .null]) rfl (Nat.le_of_ble_eq_true rfl) (Nat.le_of_ble_eq_true rfl) rfl (to_rc rfl rfl rfl (g_o hG rfl)) rfl ?_)))))))))))
  obtain ⟨pz17, pzz17, qz17, qzz17, hpz17, hpzz17, hqz17, hqzz17, hpqz17⟩ := id jPQE
  refine C_133 hX (dp1 hd (by decide)) hG hpz17 hpzz17 hqz17 hqzz17 hpqz17 jNI jPI jQI (n := v11) (w := v15) (p := pz17) (pz := pzz17) (q := qz17) (qz := qzz17) (fun r18 M24 hG20 F19 p_21 p_22 p_23 => ?_)
  have n_25 : M24.1.2.1 = M.1.2.1 ∧ M24.1.2.2.1 = M.1.2.2.1 := by rw [F19.1]; exact ⟨rfl, rfl⟩
  refine to_popi (pc := 1072) rw_0_1072 (to_an (pc := 1073) rw_0_1073 rfl (to_an (pc := 1074) rw_0_1074 rfl (to_i (pc := 1075) rw_0_1075 rfl (to_c (pc := 1077) rw_0_1077 (x := (1 : Int32)) rfl rfl (s_addk (pc := 1078) rw_0_1078 (A := i.toInt) (B := 1) rfl rfl (by omega) (v := v9) e10 (s_x0k (pc := 1079) rw_0_1079 hL (A := v9.toInt) rfl (by omega) (by omega) (v := v11) e12 (to_an (pc := 1080) rw_0_1080 rfl (to_i (pc := 1081) rw_0_1081 rfl (to_c (pc := 1083) rw_0_1083 (x := (2 : Int32)) rfl rfl (s_addk (pc := 1084) rw_0_1084 (A := i.toInt) (B := 2) rfl rfl (by omega) (v := v13) e14 (s_x0k (pc := 1085) rw_0_1085 hL (A := v13.toInt) rfl (by omega) (by omega) (v := v15) e16 ?_)))))))))))
  refine s_v (pc := 1086) rw_0_1086 (dp0 hd (by decide)) (ls0 := [.ref 77, .int v11, .int v15]) rfl (Nat.le_of_ble_eq_true rfl) (Nat.le_of_ble_eq_true rfl) rfl (to_rc rfl rfl rfl (g_o hG20 rfl)) rfl ?_
  have j_31 := (NJ_f (tg_438 F19) jNJ)
  refine C_235 hX (dp1 hd (by decide)) hG20 j_31 (n := v11) (w := v15) (fun r32 M35 hG34 F33 => ?_)
  have n_36 : M35.1.2.1 = M24.1.2.1 ∧ M35.1.2.2.1 = M24.1.2.2.1 := by rw [F33.1]; exact ⟨rfl, rfl⟩
  refine to_popi (pc := 1089) rw_0_1089 (to_go (pc := 1090) rw_0_1090 ?_)
  have c_38 : M35.2.1 77 7 = (M.2.1 77 7) := (F_n F33 (show ¬ (77 = 77 ∧ 7 = 2 ∨ 94 ≤ 77 ∧ 77 ≤ 98) by decide) (F_n F19 (show ¬ (11 ≤ 77 ∧ 77 ≤ 16 ∨ 18 ≤ 77 ∧ 77 ≤ 48 ∨ 67 ≤ 77 ∧ 77 ≤ 76) by decide) rfl))
  have t_39 : (M35.2.1 77 7).toInt = (M.2.1 77 7).toInt := congrArg Int32.toInt c_38
  have c_40 : M35.2.1 77 6 = (M.2.1 77 6) := (F_n F33 (show ¬ (77 = 77 ∧ 6 = 2 ∨ 94 ≤ 77 ∧ 77 ≤ 98) by decide) (F_n F19 (show ¬ (11 ≤ 77 ∧ 77 ≤ 16 ∨ 18 ≤ 77 ∧ 77 ≤ 48 ∨ 67 ≤ 77 ∧ 77 ≤ 76) by decide) rfl))
  have t_41 : (M35.2.1 77 6).toInt = (M.2.1 77 6).toInt := congrArg Int32.toInt c_40
  have c_42 : M35.2.1 1 1 = (M.2.1 1 1) := (F_n F33 (show ¬ (1 = 77 ∧ 1 = 2 ∨ 94 ≤ 1 ∧ 1 ≤ 98) by decide) (F_n F19 (show ¬ (11 ≤ 1 ∧ 1 ≤ 16 ∨ 18 ≤ 1 ∧ 1 ≤ 48 ∨ 67 ≤ 1 ∧ 1 ≤ 76) by decide) rfl))
  have t_43 : (M35.2.1 1 1).toInt = (M.2.1 1 1).toInt := congrArg Int32.toInt c_42
  have c_44 : M35.2.1 77 1 = (M.2.1 77 1) := (F_n F33 (show ¬ (77 = 77 ∧ 1 = 2 ∨ 94 ≤ 77 ∧ 77 ≤ 98) by decide) (F_n F19 (show ¬ (11 ≤ 77 ∧ 77 ≤ 16 ∨ 18 ≤ 77 ∧ 77 ≤ 48 ∨ 67 ≤ 77 ∧ 77 ≤ 76) by decide) rfl))
  have t_45 : (M35.2.1 77 1).toInt = (M.2.1 77 1).toInt := congrArg Int32.toInt c_44
  have c_46 : M35.2.1 0 12 = (M.2.1 0 12) := (F_n F33 (show ¬ (0 = 77 ∧ 12 = 2 ∨ 94 ≤ 0 ∧ 0 ≤ 98) by decide) (F_n F19 (show ¬ (11 ≤ 0 ∧ 0 ≤ 16 ∨ 18 ≤ 0 ∧ 0 ≤ 48 ∨ 67 ≤ 0 ∧ 0 ≤ 76) by decide) rfl))
  have t_47 : (M35.2.1 0 12).toInt = (M.2.1 0 12).toInt := congrArg Int32.toInt c_46
  have c_48 : M35.2.1 77 28 = (M.2.1 77 28) := (F_n F33 (show ¬ (77 = 77 ∧ 28 = 2 ∨ 94 ≤ 77 ∧ 77 ≤ 98) by decide) (F_n F19 (show ¬ (11 ≤ 77 ∧ 77 ≤ 16 ∨ 18 ≤ 77 ∧ 77 ≤ 48 ∨ 67 ≤ 77 ∧ 77 ≤ 76) by decide) rfl))
  have t_49 : (M35.2.1 77 28).toInt = (M.2.1 77 28).toInt := congrArg Int32.toInt c_48
  have c_50 : M35.2.1 17 4 = (M.2.1 17 4) := (F_n F33 (show ¬ (17 = 77 ∧ 4 = 2 ∨ 94 ≤ 17 ∧ 17 ≤ 98) by decide) (F_n F19 (show ¬ (11 ≤ 17 ∧ 17 ≤ 16 ∨ 18 ≤ 17 ∧ 17 ≤ 48 ∨ 67 ≤ 17 ∧ 17 ≤ 76) by decide) rfl))
  have t_51 : (M35.2.1 17 4).toInt = (M.2.1 17 4).toInt := congrArg Int32.toInt c_50
  have c_52 : M35.2.1 77 41 = (M.2.1 77 41) := (F_n F33 (show ¬ (77 = 77 ∧ 41 = 2 ∨ 94 ≤ 77 ∧ 77 ≤ 98) by decide) (F_n F19 (show ¬ (11 ≤ 77 ∧ 77 ≤ 16 ∨ 18 ≤ 77 ∧ 77 ≤ 48 ∨ 67 ≤ 77 ∧ 77 ≤ 76) by decide) rfl))
  have t_53 : (M35.2.1 77 41).toInt = (M.2.1 77 41).toInt := congrArg Int32.toInt c_52
  have c_54 : M35.2.1 6 0 = (M.2.1 6 0) := (F_n F33 (show ¬ (6 = 77 ∧ 0 = 2 ∨ 94 ≤ 6 ∧ 6 ≤ 98) by decide) (F_n F19 (show ¬ (11 ≤ 6 ∧ 6 ≤ 16 ∨ 18 ≤ 6 ∧ 6 ≤ 48 ∨ 67 ≤ 6 ∧ 6 ≤ 76) by decide) rfl))
  have t_55 : (M35.2.1 6 0).toInt = (M.2.1 6 0).toInt := congrArg Int32.toInt c_54
  have c_56 : M35.2.1 77 29 = (M.2.1 77 29) := (F_n F33 (show ¬ (77 = 77 ∧ 29 = 2 ∨ 94 ≤ 77 ∧ 77 ≤ 98) by decide) (F_n F19 (show ¬ (11 ≤ 77 ∧ 77 ≤ 16 ∨ 18 ≤ 77 ∧ 77 ≤ 48 ∨ 67 ≤ 77 ∧ 77 ≤ 76) by decide) rfl))
  have t_57 : (M35.2.1 77 29).toInt = (M.2.1 77 29).toInt := congrArg Int32.toInt c_56
  have j_58 := (PI_f (tg_439 F33) p_21)
  have j_59 := (NI_f (tg_440 F33) p_22)
  have j_60 := (QI_f (tg_441 F33) p_23)
  have j_61 := (PQE_r F33.2.1 (PQE_r F19.2.1 jPQE))
  have j_62 := (FA_f (tg_442 F33) (FA_f (tg_443 F19) jFA))
  have j_63 := (WC_f (tg_444 F33) (WC_f (tg_445 F19) jWC))
  have j_64 := (NJ_f (tg_446 F33) j_31)
  have j_65 := (PS_f (tg_447 F33) (PS_f (tg_448 F19) jPS))
  have j_66 := (KQ_f (tg_449 F33) (KQ_f (tg_450 F19) jKQ))
  have j_67 := (TP_f (tg_451 F33) (TP_f (tg_452 F19) jTP))
  have j_68 := (W9_f (tg_453 F33) (W9_f (tg_454 F19) jW9))
  have j_69 := (AN_F F33 tg_501 (AN_F F19 tg_502 jAN))
  have j_70 := (NE_r F33.2.1 (NE_r F19.2.1 jNE))
  have j_71 := (W8_f (tg_455 F33) (W8_f (tg_456 F19) jW8))
  exact h M35 (u5) (u6) ⟨⟨⟨⟨⟨⟨⟨⟨hG34, ⟨j_58, j_59, j_60, j_61⟩, ⟨j_62, j_63, j_64, j_65, j_66⟩, by omega, by omega⟩, j_67, j_68⟩, j_70, by omega⟩, AN_a j_69⟩, by omega⟩, j_71⟩, by omega⟩, j_69⟩ (by omega) (by omega)
set_option maxRecDepth 4000 in
set_option maxHeartbeats 0 in
theorem LW_25 {X : mm_X} {d L : Nat} {M : mm_M} {Q : Option Value → mm_M → Prop} {i : Int32} {u5 u6 : Value} (hX : g_X X) (hW : g_W X) (hW2 : g_W2 X) (hL : (X 0).1 = L) (h3 : L ≤ 3072) (hd : 40 ≤ d) (hi : 0 ≤ i.toInt) (hi2 : i.toInt + 6 ≤ (L : Int)) (H : LI9 M) (h : ∀ (M1 : mm_M) (v5 v6 : Value), LI9 M1 → M1.1.2.1 ≤ M.1.2.1 + 1 → M1.1.2.2.1 ≤ M.1.2.2.1 + 6 → mm_T X d 0 1314 [.ref mm_ext, .ref 0, .ref 77, .ref 125, .int i, v5, v6] [] M1 Q) : mm_T X d 0 1093 [.ref mm_ext, .ref 0, .ref 77, .ref 125, .int i, u5, u6] [] M Q := by
  obtain ⟨⟨⟨⟨⟨⟨⟨⟨hG, ⟨jPI, jNI, jQI, jPQE⟩, ⟨jFA, jWC, jNJ, jPS, jKQ⟩, jJ, jE⟩, jTP, jW9⟩, jNE, jCC⟩, -⟩, jOV⟩, jW8⟩, jNN⟩, jAN⟩ := H
  have b_1 := g_b hG (a := 77) (i := 7) (lo := 0) (hi := 500) rfl rfl
  have b_2 := g_b hG (a := 77) (i := 6) (lo := 0) (hi := 500) rfl rfl
  have b_3 := g_b hG (a := 1) (i := 1) (lo := 0) (hi := 500) rfl rfl
  have b_4 := g_b hG (a := 77) (i := 1) (lo := 0) (hi := 500) rfl rfl
  have b_5 := g_b hG (a := 0) (i := 12) (lo := 0) (hi := 30) rfl rfl
  have b_6 := g_b hG (a := 77) (i := 28) (lo := 0) (hi := 30) rfl rfl
  have b_7 := g_b hG (a := 6) (i := 0) (lo := 0) (hi := 150) rfl rfl
  have b_8 := g_b hG (a := 77) (i := 29) (lo := 0) (hi := 150) rfl rfl
  refine to_an (pc := 1093) rw_0_1093 rfl (to_an (pc := 1094) rw_0_1094 rfl (to_i (pc := 1095) rw_0_1095 rfl (to_c (pc := 1097) rw_0_1097 (x := (1 : Int32)) rfl rfl (s_add (pc := 1098) rw_0_1098 (A := i.toInt) (B := 1) rfl rfl (by omega) (fun v9 e10 => s_x0 (pc := 1099) rw_0_1099 hL (A := v9.toInt) rfl (by omega) (by omega) (fun v11 e12 => to_an (pc := 1100) rw_0_1100 rfl (to_i (pc := 1101) rw_0_1101 rfl (to_c (pc := 1103) rw_0_1103 (x := (2 : Int32)) rfl rfl (s_add (pc := 1104) rw_0_1104 (A := i.toInt) (B := 2) rfl rfl (by omega) (fun v13 e14 => s_x0 (pc := 1105) rw_0_1105 hL (A := v13.toInt) rfl (by omega) (by omega) (fun v15 e16 => s_v (pc := 1106) rw_0_1106 (dp0 hd (by decide)) (ls0 := [.ref 0, .int v11, .int v15]) rfl (Nat.le_of_ble_eq_true rfl) (Nat.le_of_ble_eq_true rfl) rfl (to_rc rfl rfl rfl (g_o hG rfl)) rfl ?_)))))))))))
  obtain ⟨pz17, pzz17, qz17, qzz17, hpz17, hpzz17, hqz17, hqzz17, hpqz17⟩ := id jPQE
  refine C_134 hX (dp1 hd (by decide)) hG hpz17 hpzz17 hqz17 hqzz17 hpqz17 jNI jPI jQI (n := v11) (w := v15) (p := pz17) (pz := pzz17) (q := qz17) (qz := qzz17) (fun r18 M24 hG20 F19 p_21 p_22 p_23 => ?_)
  have n_25 : M24.1.2.1 = M.1.2.1 ∧ M24.1.2.2.1 = M.1.2.2.1 := by rw [F19.1]; exact ⟨rfl, rfl⟩
  refine to_popi (pc := 1109) rw_0_1109 (to_an (pc := 1110) rw_0_1110 rfl (to_an (pc := 1111) rw_0_1111 rfl (to_i (pc := 1112) rw_0_1112 rfl (to_c (pc := 1114) rw_0_1114 (x := (1 : Int32)) rfl rfl (s_addk (pc := 1115) rw_0_1115 (A := i.toInt) (B := 1) rfl rfl (by omega) (v := v9) e10 (s_x0k (pc := 1116) rw_0_1116 hL (A := v9.toInt) rfl (by omega) (by omega) (v := v11) e12 (to_an (pc := 1117) rw_0_1117 rfl (to_i (pc := 1118) rw_0_1118 rfl (to_c (pc := 1120) rw_0_1120 (x := (2 : Int32)) rfl rfl (s_addk (pc := 1121) rw_0_1121 (A := i.toInt) (B := 2) rfl rfl (by omega) (v := v13) e14 (s_x0k (pc := 1122) rw_0_1122 hL (A := v13.toInt) rfl (by omega) (by omega) (v := v15) e16 ?_)))))))))))
  refine s_v (pc := 1123) rw_0_1123 (dp0 hd (by decide)) (ls0 := [.ref 77, .int v11, .int v15, .null, .null, .null, .null, .null, .null, .null, .null, .null, .null, .null]) rfl (Nat.le_of_ble_eq_true rfl) (Nat.le_of_ble_eq_true rfl) rfl (to_rc rfl rfl rfl (g_o hG20 rfl)) rfl ?_
  have j_31 := (NJ_f (tg_438 F19) jNJ)
  have j_32 := (FA_f (tg_443 F19) jFA)
  have j_33 := (WC_f (tg_445 F19) jWC)
  refine C_237 hX (dp1 hd (by decide)) hG20 j_31 j_32 j_33 (n := v11) (w := v15) (fun r34 M37 hG36 F35 => ?_)
  have n_38 : M37.1.2.1 = M24.1.2.1 ∧ M37.1.2.2.1 = M24.1.2.2.1 := by rw [F35.1]; exact ⟨rfl, rfl⟩
  refine to_popi (pc := 1126) rw_0_1126 (to_go (pc := 1127) rw_0_1127 ?_)
  have c_40 : M37.2.1 77 7 = (M.2.1 77 7) := (F_n F35 (show ¬ (77 = 77 ∧ 7 = 2 ∨ 94 ≤ 77 ∧ 77 ≤ 98 ∨ 77 = 118) by decide) (F_n F19 (show ¬ (11 ≤ 77 ∧ 77 ≤ 16 ∨ 18 ≤ 77 ∧ 77 ≤ 48 ∨ 67 ≤ 77 ∧ 77 ≤ 76) by decide) rfl))
  have t_41 : (M37.2.1 77 7).toInt = (M.2.1 77 7).toInt := congrArg Int32.toInt c_40
  have c_42 : M37.2.1 77 6 = (M.2.1 77 6) := (F_n F35 (show ¬ (77 = 77 ∧ 6 = 2 ∨ 94 ≤ 77 ∧ 77 ≤ 98 ∨ 77 = 118) by decide) (F_n F19 (show ¬ (11 ≤ 77 ∧ 77 ≤ 16 ∨ 18 ≤ 77 ∧ 77 ≤ 48 ∨ 67 ≤ 77 ∧ 77 ≤ 76) by decide) rfl))
  have t_43 : (M37.2.1 77 6).toInt = (M.2.1 77 6).toInt := congrArg Int32.toInt c_42
  have c_44 : M37.2.1 1 1 = (M.2.1 1 1) := (F_n F35 (show ¬ (1 = 77 ∧ 1 = 2 ∨ 94 ≤ 1 ∧ 1 ≤ 98 ∨ 1 = 118) by decide) (F_n F19 (show ¬ (11 ≤ 1 ∧ 1 ≤ 16 ∨ 18 ≤ 1 ∧ 1 ≤ 48 ∨ 67 ≤ 1 ∧ 1 ≤ 76) by decide) rfl))
  have t_45 : (M37.2.1 1 1).toInt = (M.2.1 1 1).toInt := congrArg Int32.toInt c_44
  have c_46 : M37.2.1 77 1 = (M.2.1 77 1) := (F_n F35 (show ¬ (77 = 77 ∧ 1 = 2 ∨ 94 ≤ 77 ∧ 77 ≤ 98 ∨ 77 = 118) by decide) (F_n F19 (show ¬ (11 ≤ 77 ∧ 77 ≤ 16 ∨ 18 ≤ 77 ∧ 77 ≤ 48 ∨ 67 ≤ 77 ∧ 77 ≤ 76) by decide) rfl))
  have t_47 : (M37.2.1 77 1).toInt = (M.2.1 77 1).toInt := congrArg Int32.toInt c_46
  have c_48 : M37.2.1 0 12 = (M.2.1 0 12) := (F_n F35 (show ¬ (0 = 77 ∧ 12 = 2 ∨ 94 ≤ 0 ∧ 0 ≤ 98 ∨ 0 = 118) by decide) (F_n F19 (show ¬ (11 ≤ 0 ∧ 0 ≤ 16 ∨ 18 ≤ 0 ∧ 0 ≤ 48 ∨ 67 ≤ 0 ∧ 0 ≤ 76) by decide) rfl))
  have t_49 : (M37.2.1 0 12).toInt = (M.2.1 0 12).toInt := congrArg Int32.toInt c_48
  have c_50 : M37.2.1 77 28 = (M.2.1 77 28) := (F_n F35 (show ¬ (77 = 77 ∧ 28 = 2 ∨ 94 ≤ 77 ∧ 77 ≤ 98 ∨ 77 = 118) by decide) (F_n F19 (show ¬ (11 ≤ 77 ∧ 77 ≤ 16 ∨ 18 ≤ 77 ∧ 77 ≤ 48 ∨ 67 ≤ 77 ∧ 77 ≤ 76) by decide) rfl))
  have t_51 : (M37.2.1 77 28).toInt = (M.2.1 77 28).toInt := congrArg Int32.toInt c_50
  have c_52 : M37.2.1 17 4 = (M.2.1 17 4) := (F_n F35 (show ¬ (17 = 77 ∧ 4 = 2 ∨ 94 ≤ 17 ∧ 17 ≤ 98 ∨ 17 = 118) by decide) (F_n F19 (show ¬ (11 ≤ 17 ∧ 17 ≤ 16 ∨ 18 ≤ 17 ∧ 17 ≤ 48 ∨ 67 ≤ 17 ∧ 17 ≤ 76) by decide) rfl))
  have t_53 : (M37.2.1 17 4).toInt = (M.2.1 17 4).toInt := congrArg Int32.toInt c_52
  have c_54 : M37.2.1 77 41 = (M.2.1 77 41) := (F_n F35 (show ¬ (77 = 77 ∧ 41 = 2 ∨ 94 ≤ 77 ∧ 77 ≤ 98 ∨ 77 = 118) by decide) (F_n F19 (show ¬ (11 ≤ 77 ∧ 77 ≤ 16 ∨ 18 ≤ 77 ∧ 77 ≤ 48 ∨ 67 ≤ 77 ∧ 77 ≤ 76) by decide) rfl))
  have t_55 : (M37.2.1 77 41).toInt = (M.2.1 77 41).toInt := congrArg Int32.toInt c_54
  have c_56 : M37.2.1 6 0 = (M.2.1 6 0) := (F_n F35 (show ¬ (6 = 77 ∧ 0 = 2 ∨ 94 ≤ 6 ∧ 6 ≤ 98 ∨ 6 = 118) by decide) (F_n F19 (show ¬ (11 ≤ 6 ∧ 6 ≤ 16 ∨ 18 ≤ 6 ∧ 6 ≤ 48 ∨ 67 ≤ 6 ∧ 6 ≤ 76) by decide) rfl))
  have t_57 : (M37.2.1 6 0).toInt = (M.2.1 6 0).toInt := congrArg Int32.toInt c_56
  have c_58 : M37.2.1 77 29 = (M.2.1 77 29) := (F_n F35 (show ¬ (77 = 77 ∧ 29 = 2 ∨ 94 ≤ 77 ∧ 77 ≤ 98 ∨ 77 = 118) by decide) (F_n F19 (show ¬ (11 ≤ 77 ∧ 77 ≤ 16 ∨ 18 ≤ 77 ∧ 77 ≤ 48 ∨ 67 ≤ 77 ∧ 77 ≤ 76) by decide) rfl))
  have t_59 : (M37.2.1 77 29).toInt = (M.2.1 77 29).toInt := congrArg Int32.toInt c_58
  have j_60 := (PI_f (tg_562 F35) p_21)
  have j_61 := (NI_f (tg_563 F35) p_22)
  have j_62 := (QI_f (tg_564 F35) p_23)
  have j_63 := (PQE_r F35.2.1 (PQE_r F19.2.1 jPQE))
  have j_64 := (FA_f (tg_565 F35) j_32)
  have j_65 := (WC_f (tg_566 F35) j_33)
  have j_66 := (NJ_f (tg_567 F35) j_31)
  have j_67 := (PS_f (tg_568 F35) (PS_f (tg_448 F19) jPS))
  have j_68 := (KQ_f (tg_569 F35) (KQ_f (tg_450 F19) jKQ))
  have j_69 := (TP_f (tg_570 F35) (TP_f (tg_452 F19) jTP))
  have j_70 := (W9_f (tg_571 F35) (W9_f (tg_454 F19) jW9))
  have j_71 := (AN_F F35 tg_612 (AN_F F19 tg_502 jAN))
  have j_72 := (NE_r F35.2.1 (NE_r F19.2.1 jNE))
  have j_73 := (W8_f (tg_572 F35) (W8_f (tg_456 F19) jW8))
  exact h M37 (u5) (u6) ⟨⟨⟨⟨⟨⟨⟨⟨hG36, ⟨j_60, j_61, j_62, j_63⟩, ⟨j_64, j_65, j_66, j_67, j_68⟩, by omega, by omega⟩, j_69, j_70⟩, j_72, by omega⟩, AN_a j_71⟩, by omega⟩, j_73⟩, by omega⟩, j_71⟩ (by omega) (by omega)
set_option maxRecDepth 4000 in
set_option maxHeartbeats 0 in
theorem LW_26 {X : mm_X} {d L : Nat} {M : mm_M} {Q : Option Value → mm_M → Prop} {i : Int32} {u5 u6 : Value} (hX : g_X X) (hW : g_W X) (hW2 : g_W2 X) (hL : (X 0).1 = L) (h3 : L ≤ 3072) (hd : 40 ≤ d) (hi : 0 ≤ i.toInt) (hi2 : i.toInt + 6 ≤ (L : Int)) (H : LI9 M) (h : ∀ (M1 : mm_M) (v5 v6 : Value), LI9 M1 → M1.1.2.1 ≤ M.1.2.1 + 1 → M1.1.2.2.1 ≤ M.1.2.2.1 + 6 → mm_T X d 0 1314 [.ref mm_ext, .ref 0, .ref 77, .ref 125, .int i, v5, v6] [] M1 Q) : mm_T X d 0 1130 [.ref mm_ext, .ref 0, .ref 77, .ref 125, .int i, u5, u6] [] M Q := by
  obtain ⟨⟨⟨⟨⟨⟨⟨⟨hG, ⟨jPI, jNI, jQI, jPQE⟩, ⟨jFA, jWC, jNJ, jPS, jKQ⟩, jJ, jE⟩, jTP, jW9⟩, jNE, jCC⟩, -⟩, jOV⟩, jW8⟩, jNN⟩, jAN⟩ := H
  have b_1 := g_b hG (a := 77) (i := 7) (lo := 0) (hi := 500) rfl rfl
  have b_2 := g_b hG (a := 77) (i := 6) (lo := 0) (hi := 500) rfl rfl
  have b_3 := g_b hG (a := 1) (i := 1) (lo := 0) (hi := 500) rfl rfl
  have b_4 := g_b hG (a := 77) (i := 1) (lo := 0) (hi := 500) rfl rfl
  have b_5 := g_b hG (a := 0) (i := 12) (lo := 0) (hi := 30) rfl rfl
  have b_6 := g_b hG (a := 77) (i := 28) (lo := 0) (hi := 30) rfl rfl
  have b_7 := g_b hG (a := 6) (i := 0) (lo := 0) (hi := 150) rfl rfl
  have b_8 := g_b hG (a := 77) (i := 29) (lo := 0) (hi := 150) rfl rfl
  refine to_an (pc := 1130) rw_0_1130 rfl (to_an (pc := 1131) rw_0_1131 rfl (to_i (pc := 1132) rw_0_1132 rfl (to_c (pc := 1134) rw_0_1134 (x := (1 : Int32)) rfl rfl (s_add (pc := 1135) rw_0_1135 (A := i.toInt) (B := 1) rfl rfl (by omega) (fun v9 e10 => s_x0 (pc := 1136) rw_0_1136 hL (A := v9.toInt) rfl (by omega) (by omega) (fun v11 e12 => to_an (pc := 1137) rw_0_1137 rfl (to_i (pc := 1138) rw_0_1138 rfl (to_c (pc := 1140) rw_0_1140 (x := (2 : Int32)) rfl rfl (s_add (pc := 1141) rw_0_1141 (A := i.toInt) (B := 2) rfl rfl (by omega) (fun v13 e14 => s_x0 (pc := 1142) rw_0_1142 hL (A := v13.toInt) rfl (by omega) (by omega) (fun v15 e16 => to_an (pc := 1143) rw_0_1143 rfl ?_)))))))))))
  refine to_i (pc := 1144) rw_0_1144 rfl (to_c (pc := 1146) rw_0_1146 (x := (3 : Int32)) rfl rfl (s_add (pc := 1147) rw_0_1147 (A := i.toInt) (B := 3) rfl rfl (by omega) (fun v17 e18 => s_x0 (pc := 1148) rw_0_1148 hL (A := v17.toInt) rfl (by omega) (by omega) (fun v19 e20 => to_an (pc := 1149) rw_0_1149 rfl (to_i (pc := 1150) rw_0_1150 rfl (to_c (pc := 1152) rw_0_1152 (x := (4 : Int32)) rfl rfl (s_add (pc := 1153) rw_0_1153 (A := i.toInt) (B := 4) rfl rfl (by omega) (fun v21 e22 => s_x0 (pc := 1154) rw_0_1154 hL (A := v21.toInt) rfl (by omega) (by omega) (fun v23 e24 => to_an (pc := 1155) rw_0_1155 rfl (to_i (pc := 1156) rw_0_1156 rfl (to_c (pc := 1158) rw_0_1158 (x := (5 : Int32)) rfl rfl ?_)))))))))))
  refine s_add (pc := 1159) rw_0_1159 (A := i.toInt) (B := 5) rfl rfl (by omega) (fun v25 e26 => s_x0 (pc := 1160) rw_0_1160 hL (A := v25.toInt) rfl (by omega) (by omega) (fun v27 e28 => s_v (pc := 1161) rw_0_1161 (dp0 hd (by decide)) (ls0 := [.ref 0, .int v11, .int v15, .int v19, .int v23, .int v27]) rfl (Nat.le_of_ble_eq_true rfl) (Nat.le_of_ble_eq_true rfl) rfl (to_rc rfl rfl rfl (g_o hG rfl)) rfl ?_))
  obtain ⟨pz29, pzz29, qz29, qzz29, hpz29, hpzz29, hqz29, hqzz29, hpqz29⟩ := id jPQE
  refine C_135 hX (dp1 hd (by decide)) hG hpz29 hpzz29 hqz29 hqzz29 hpqz29 jNI jPI jQI (n := v11) (c := v15) (f := v19) (t := v23) (w := v27) (p := pz29) (pz := pzz29) (q := qz29) (qz := qzz29) (fun r30 M36 hG32 F31 p_33 p_34 p_35 => ?_)
  have n_37 : M36.1.2.1 = M.1.2.1 ∧ M36.1.2.2.1 = M.1.2.2.1 := by rw [F31.1]; exact ⟨rfl, rfl⟩
  refine to_popi (pc := 1164) rw_0_1164 (to_an (pc := 1165) rw_0_1165 rfl (to_an (pc := 1166) rw_0_1166 rfl (to_i (pc := 1167) rw_0_1167 rfl (to_c (pc := 1169) rw_0_1169 (x := (1 : Int32)) rfl rfl (s_addk (pc := 1170) rw_0_1170 (A := i.toInt) (B := 1) rfl rfl (by omega) (v := v9) e10 (s_x0k (pc := 1171) rw_0_1171 hL (A := v9.toInt) rfl (by omega) (by omega) (v := v11) e12 (to_an (pc := 1172) rw_0_1172 rfl (to_i (pc := 1173) rw_0_1173 rfl (to_c (pc := 1175) rw_0_1175 (x := (2 : Int32)) rfl rfl (s_addk (pc := 1176) rw_0_1176 (A := i.toInt) (B := 2) rfl rfl (by omega) (v := v13) e14 (s_x0k (pc := 1177) rw_0_1177 hL (A := v13.toInt) rfl (by omega) (by omega) (v := v15) e16 ?_)))))))))))
  refine to_an (pc := 1178) rw_0_1178 rfl (to_i (pc := 1179) rw_0_1179 rfl (to_c (pc := 1181) rw_0_1181 (x := (3 : Int32)) rfl rfl (s_addk (pc := 1182) rw_0_1182 (A := i.toInt) (B := 3) rfl rfl (by omega) (v := v17) e18 (s_x0k (pc := 1183) rw_0_1183 hL (A := v17.toInt) rfl (by omega) (by omega) (v := v19) e20 (to_an (pc := 1184) rw_0_1184 rfl (to_i (pc := 1185) rw_0_1185 rfl (to_c (pc := 1187) rw_0_1187 (x := (4 : Int32)) rfl rfl (s_addk (pc := 1188) rw_0_1188 (A := i.toInt) (B := 4) rfl rfl (by omega) (v := v21) e22 (s_x0k (pc := 1189) rw_0_1189 hL (A := v21.toInt) rfl (by omega) (by omega) (v := v23) e24 (to_an (pc := 1190) rw_0_1190 rfl (to_i (pc := 1191) rw_0_1191 rfl ?_)))))))))))
  refine to_c (pc := 1193) rw_0_1193 (x := (5 : Int32)) rfl rfl (s_addk (pc := 1194) rw_0_1194 (A := i.toInt) (B := 5) rfl rfl (by omega) (v := v25) e26 (s_x0k (pc := 1195) rw_0_1195 hL (A := v25.toInt) rfl (by omega) (by omega) (v := v27) e28 (s_v (pc := 1196) rw_0_1196 (dp0 hd (by decide)) (ls0 := [.ref 77, .int v11, .int v15, .int v19, .int v23, .int v27]) rfl (Nat.le_of_ble_eq_true rfl) (Nat.le_of_ble_eq_true rfl) rfl (to_rc rfl rfl rfl (g_o hG32 rfl)) rfl ?_)))
  have j_49 := (NJ_f (tg_438 F31) jNJ)
  have j_50 := (FA_f (tg_443 F31) jFA)
  refine C_238 hX (dp1 hd (by decide)) hG32 j_49 j_50 (n := v11) (c := v15) (f := v19) (t := v23) (w := v27) (fun r51 M54 hG53 F52 => ?_)
  have n_55 : M54.1.2.1 = M36.1.2.1 ∧ M54.1.2.2.1 = M36.1.2.2.1 := by rw [F52.1]; exact ⟨rfl, rfl⟩
  refine to_popi (pc := 1199) rw_0_1199 (to_go (pc := 1200) rw_0_1200 ?_)
  have c_57 : M54.2.1 77 7 = (M.2.1 77 7) := (F_n F52 (show ¬ (77 = 77 ∧ 7 = 2 ∨ 94 ≤ 77 ∧ 77 ≤ 98 ∨ 77 = 119) by decide) (F_n F31 (show ¬ (11 ≤ 77 ∧ 77 ≤ 16 ∨ 18 ≤ 77 ∧ 77 ≤ 48 ∨ 67 ≤ 77 ∧ 77 ≤ 76) by decide) rfl))
  have t_58 : (M54.2.1 77 7).toInt = (M.2.1 77 7).toInt := congrArg Int32.toInt c_57
  have c_59 : M54.2.1 77 6 = (M.2.1 77 6) := (F_n F52 (show ¬ (77 = 77 ∧ 6 = 2 ∨ 94 ≤ 77 ∧ 77 ≤ 98 ∨ 77 = 119) by decide) (F_n F31 (show ¬ (11 ≤ 77 ∧ 77 ≤ 16 ∨ 18 ≤ 77 ∧ 77 ≤ 48 ∨ 67 ≤ 77 ∧ 77 ≤ 76) by decide) rfl))
  have t_60 : (M54.2.1 77 6).toInt = (M.2.1 77 6).toInt := congrArg Int32.toInt c_59
  have c_61 : M54.2.1 1 1 = (M.2.1 1 1) := (F_n F52 (show ¬ (1 = 77 ∧ 1 = 2 ∨ 94 ≤ 1 ∧ 1 ≤ 98 ∨ 1 = 119) by decide) (F_n F31 (show ¬ (11 ≤ 1 ∧ 1 ≤ 16 ∨ 18 ≤ 1 ∧ 1 ≤ 48 ∨ 67 ≤ 1 ∧ 1 ≤ 76) by decide) rfl))
  have t_62 : (M54.2.1 1 1).toInt = (M.2.1 1 1).toInt := congrArg Int32.toInt c_61
  have c_63 : M54.2.1 77 1 = (M.2.1 77 1) := (F_n F52 (show ¬ (77 = 77 ∧ 1 = 2 ∨ 94 ≤ 77 ∧ 77 ≤ 98 ∨ 77 = 119) by decide) (F_n F31 (show ¬ (11 ≤ 77 ∧ 77 ≤ 16 ∨ 18 ≤ 77 ∧ 77 ≤ 48 ∨ 67 ≤ 77 ∧ 77 ≤ 76) by decide) rfl))
  have t_64 : (M54.2.1 77 1).toInt = (M.2.1 77 1).toInt := congrArg Int32.toInt c_63
  have c_65 : M54.2.1 0 12 = (M.2.1 0 12) := (F_n F52 (show ¬ (0 = 77 ∧ 12 = 2 ∨ 94 ≤ 0 ∧ 0 ≤ 98 ∨ 0 = 119) by decide) (F_n F31 (show ¬ (11 ≤ 0 ∧ 0 ≤ 16 ∨ 18 ≤ 0 ∧ 0 ≤ 48 ∨ 67 ≤ 0 ∧ 0 ≤ 76) by decide) rfl))
  have t_66 : (M54.2.1 0 12).toInt = (M.2.1 0 12).toInt := congrArg Int32.toInt c_65
  have c_67 : M54.2.1 77 28 = (M.2.1 77 28) := (F_n F52 (show ¬ (77 = 77 ∧ 28 = 2 ∨ 94 ≤ 77 ∧ 77 ≤ 98 ∨ 77 = 119) by decide) (F_n F31 (show ¬ (11 ≤ 77 ∧ 77 ≤ 16 ∨ 18 ≤ 77 ∧ 77 ≤ 48 ∨ 67 ≤ 77 ∧ 77 ≤ 76) by decide) rfl))
  have t_68 : (M54.2.1 77 28).toInt = (M.2.1 77 28).toInt := congrArg Int32.toInt c_67
  have c_69 : M54.2.1 17 4 = (M.2.1 17 4) := (F_n F52 (show ¬ (17 = 77 ∧ 4 = 2 ∨ 94 ≤ 17 ∧ 17 ≤ 98 ∨ 17 = 119) by decide) (F_n F31 (show ¬ (11 ≤ 17 ∧ 17 ≤ 16 ∨ 18 ≤ 17 ∧ 17 ≤ 48 ∨ 67 ≤ 17 ∧ 17 ≤ 76) by decide) rfl))
  have t_70 : (M54.2.1 17 4).toInt = (M.2.1 17 4).toInt := congrArg Int32.toInt c_69
  have c_71 : M54.2.1 77 41 = (M.2.1 77 41) := (F_n F52 (show ¬ (77 = 77 ∧ 41 = 2 ∨ 94 ≤ 77 ∧ 77 ≤ 98 ∨ 77 = 119) by decide) (F_n F31 (show ¬ (11 ≤ 77 ∧ 77 ≤ 16 ∨ 18 ≤ 77 ∧ 77 ≤ 48 ∨ 67 ≤ 77 ∧ 77 ≤ 76) by decide) rfl))
  have t_72 : (M54.2.1 77 41).toInt = (M.2.1 77 41).toInt := congrArg Int32.toInt c_71
  have c_73 : M54.2.1 6 0 = (M.2.1 6 0) := (F_n F52 (show ¬ (6 = 77 ∧ 0 = 2 ∨ 94 ≤ 6 ∧ 6 ≤ 98 ∨ 6 = 119) by decide) (F_n F31 (show ¬ (11 ≤ 6 ∧ 6 ≤ 16 ∨ 18 ≤ 6 ∧ 6 ≤ 48 ∨ 67 ≤ 6 ∧ 6 ≤ 76) by decide) rfl))
  have t_74 : (M54.2.1 6 0).toInt = (M.2.1 6 0).toInt := congrArg Int32.toInt c_73
  have c_75 : M54.2.1 77 29 = (M.2.1 77 29) := (F_n F52 (show ¬ (77 = 77 ∧ 29 = 2 ∨ 94 ≤ 77 ∧ 77 ≤ 98 ∨ 77 = 119) by decide) (F_n F31 (show ¬ (11 ≤ 77 ∧ 77 ≤ 16 ∨ 18 ≤ 77 ∧ 77 ≤ 48 ∨ 67 ≤ 77 ∧ 77 ≤ 76) by decide) rfl))
  have t_76 : (M54.2.1 77 29).toInt = (M.2.1 77 29).toInt := congrArg Int32.toInt c_75
  have j_77 := (PI_f (tg_573 F52) p_33)
  have j_78 := (NI_f (tg_574 F52) p_34)
  have j_79 := (QI_f (tg_575 F52) p_35)
  have j_80 := (PQE_r F52.2.1 (PQE_r F31.2.1 jPQE))
  have j_81 := (FA_f (tg_576 F52) j_50)
  have j_82 := (WC_f (tg_577 F52) (WC_f (tg_445 F31) jWC))
  have j_83 := (NJ_f (tg_578 F52) j_49)
  have j_84 := (PS_f (tg_579 F52) (PS_f (tg_448 F31) jPS))
  have j_85 := (KQ_f (tg_580 F52) (KQ_f (tg_450 F31) jKQ))
  have j_86 := (TP_f (tg_581 F52) (TP_f (tg_452 F31) jTP))
  have j_87 := (W9_f (tg_582 F52) (W9_f (tg_454 F31) jW9))
  have j_88 := (AN_F F52 tg_613 (AN_F F31 tg_502 jAN))
  have j_89 := (NE_r F52.2.1 (NE_r F31.2.1 jNE))
  have j_90 := (W8_f (tg_583 F52) (W8_f (tg_456 F31) jW8))
  exact h M54 (u5) (u6) ⟨⟨⟨⟨⟨⟨⟨⟨hG53, ⟨j_77, j_78, j_79, j_80⟩, ⟨j_81, j_82, j_83, j_84, j_85⟩, by omega, by omega⟩, j_86, j_87⟩, j_89, by omega⟩, AN_a j_88⟩, by omega⟩, j_90⟩, by omega⟩, j_88⟩ (by omega) (by omega)
set_option maxRecDepth 4000 in
set_option maxHeartbeats 0 in
theorem LW_27 {X : mm_X} {d L : Nat} {M : mm_M} {Q : Option Value → mm_M → Prop} {i : Int32} {u5 u6 : Value} (hX : g_X X) (hW : g_W X) (hW2 : g_W2 X) (hL : (X 0).1 = L) (h3 : L ≤ 3072) (hd : 40 ≤ d) (hi : 0 ≤ i.toInt) (hi2 : i.toInt + 6 ≤ (L : Int)) (H : LI9 M) (h : ∀ (M1 : mm_M) (v5 v6 : Value), LI9 M1 → M1.1.2.1 ≤ M.1.2.1 + 1 → M1.1.2.2.1 ≤ M.1.2.2.1 + 6 → mm_T X d 0 1314 [.ref mm_ext, .ref 0, .ref 77, .ref 125, .int i, v5, v6] [] M1 Q) : mm_T X d 0 1203 [.ref mm_ext, .ref 0, .ref 77, .ref 125, .int i, u5, u6] [] M Q := by
  obtain ⟨⟨⟨⟨⟨⟨⟨⟨hG, ⟨jPI, jNI, jQI, jPQE⟩, ⟨jFA, jWC, jNJ, jPS, jKQ⟩, jJ, jE⟩, jTP, jW9⟩, jNE, jCC⟩, -⟩, jOV⟩, jW8⟩, jNN⟩, jAN⟩ := H
  have b_1 := g_b hG (a := 77) (i := 7) (lo := 0) (hi := 500) rfl rfl
  have b_2 := g_b hG (a := 77) (i := 6) (lo := 0) (hi := 500) rfl rfl
  have b_3 := g_b hG (a := 1) (i := 1) (lo := 0) (hi := 500) rfl rfl
  have b_4 := g_b hG (a := 77) (i := 1) (lo := 0) (hi := 500) rfl rfl
  have b_5 := g_b hG (a := 0) (i := 12) (lo := 0) (hi := 30) rfl rfl
  have b_6 := g_b hG (a := 77) (i := 28) (lo := 0) (hi := 30) rfl rfl
  have b_7 := g_b hG (a := 6) (i := 0) (lo := 0) (hi := 150) rfl rfl
  have b_8 := g_b hG (a := 77) (i := 29) (lo := 0) (hi := 150) rfl rfl
  refine to_an (pc := 1203) rw_0_1203 rfl (to_an (pc := 1204) rw_0_1204 rfl (to_i (pc := 1205) rw_0_1205 rfl (to_c (pc := 1207) rw_0_1207 (x := (1 : Int32)) rfl rfl (s_add (pc := 1208) rw_0_1208 (A := i.toInt) (B := 1) rfl rfl (by omega) (fun v9 e10 => s_x0 (pc := 1209) rw_0_1209 hL (A := v9.toInt) rfl (by omega) (by omega) (fun v11 e12 => to_an (pc := 1210) rw_0_1210 rfl (to_i (pc := 1211) rw_0_1211 rfl (to_c (pc := 1213) rw_0_1213 (x := (2 : Int32)) rfl rfl (s_add (pc := 1214) rw_0_1214 (A := i.toInt) (B := 2) rfl rfl (by omega) (fun v13 e14 => s_x0 (pc := 1215) rw_0_1215 hL (A := v13.toInt) rfl (by omega) (by omega) (fun v15 e16 => s_v (pc := 1216) rw_0_1216 (dp0 hd (by decide)) (ls0 := [.ref 0, .int v11, .int v15]) rfl (Nat.le_of_ble_eq_true rfl) (Nat.le_of_ble_eq_true rfl) rfl (to_rc rfl rfl rfl (g_o hG rfl)) rfl ?_)))))))))))
  obtain ⟨pz17, pzz17, qz17, qzz17, hpz17, hpzz17, hqz17, hqzz17, hpqz17⟩ := id jPQE
  refine C_136 hX (dp1 hd (by decide)) hG hpz17 hpzz17 hqz17 hqzz17 hpqz17 jNI jPI jQI (k := v11) (f := v15) (p := pz17) (pz := pzz17) (q := qz17) (qz := qzz17) (fun r18 M24 hG20 F19 p_21 p_22 p_23 => ?_)
  have n_25 : M24.1.2.1 = M.1.2.1 ∧ M24.1.2.2.1 = M.1.2.2.1 := by rw [F19.1]; exact ⟨rfl, rfl⟩
  refine to_popi (pc := 1219) rw_0_1219 (to_an (pc := 1220) rw_0_1220 rfl (to_an (pc := 1221) rw_0_1221 rfl (to_i (pc := 1222) rw_0_1222 rfl (to_c (pc := 1224) rw_0_1224 (x := (1 : Int32)) rfl rfl (s_addk (pc := 1225) rw_0_1225 (A := i.toInt) (B := 1) rfl rfl (by omega) (v := v9) e10 (s_x0k (pc := 1226) rw_0_1226 hL (A := v9.toInt) rfl (by omega) (by omega) (v := v11) e12 (to_an (pc := 1227) rw_0_1227 rfl (to_i (pc := 1228) rw_0_1228 rfl (to_c (pc := 1230) rw_0_1230 (x := (2 : Int32)) rfl rfl (s_addk (pc := 1231) rw_0_1231 (A := i.toInt) (B := 2) rfl rfl (by omega) (v := v13) e14 (s_x0k (pc := 1232) rw_0_1232 hL (A := v13.toInt) rfl (by omega) (by omega) (v := v15) e16 ?_)))))))))))
  refine s_v (pc := 1233) rw_0_1233 (dp0 hd (by decide)) (ls0 := [.ref 77, .int v11, .int v15, .null, .null, .null]) rfl (Nat.le_of_ble_eq_true rfl) (Nat.le_of_ble_eq_true rfl) rfl (to_rc rfl rfl rfl (g_o hG20 rfl)) rfl ?_
  have j_31 := (NJ_f (tg_438 F19) jNJ)
  refine C_242 hX (dp1 hd (by decide)) hG20 j_31 (p := v11) (f := v15) (fun r32 M35 hG34 F33 => ?_)
  have n_36 : M35.1.2.1 = M24.1.2.1 ∧ M35.1.2.2.1 = M24.1.2.2.1 := by rw [F33.1]; exact ⟨rfl, rfl⟩
  refine to_popi (pc := 1236) rw_0_1236 (to_go (pc := 1237) rw_0_1237 ?_)
  have c_38 : M35.2.1 77 7 = (M.2.1 77 7) := (F_n F33 (show ¬ (77 = 77 ∧ 7 = 2 ∨ 94 ≤ 77 ∧ 77 ≤ 98 ∨ 77 = 120) by decide) (F_n F19 (show ¬ (11 ≤ 77 ∧ 77 ≤ 16 ∨ 18 ≤ 77 ∧ 77 ≤ 48 ∨ 67 ≤ 77 ∧ 77 ≤ 76) by decide) rfl))
  have t_39 : (M35.2.1 77 7).toInt = (M.2.1 77 7).toInt := congrArg Int32.toInt c_38
  have c_40 : M35.2.1 77 6 = (M.2.1 77 6) := (F_n F33 (show ¬ (77 = 77 ∧ 6 = 2 ∨ 94 ≤ 77 ∧ 77 ≤ 98 ∨ 77 = 120) by decide) (F_n F19 (show ¬ (11 ≤ 77 ∧ 77 ≤ 16 ∨ 18 ≤ 77 ∧ 77 ≤ 48 ∨ 67 ≤ 77 ∧ 77 ≤ 76) by decide) rfl))
  have t_41 : (M35.2.1 77 6).toInt = (M.2.1 77 6).toInt := congrArg Int32.toInt c_40
  have c_42 : M35.2.1 1 1 = (M.2.1 1 1) := (F_n F33 (show ¬ (1 = 77 ∧ 1 = 2 ∨ 94 ≤ 1 ∧ 1 ≤ 98 ∨ 1 = 120) by decide) (F_n F19 (show ¬ (11 ≤ 1 ∧ 1 ≤ 16 ∨ 18 ≤ 1 ∧ 1 ≤ 48 ∨ 67 ≤ 1 ∧ 1 ≤ 76) by decide) rfl))
  have t_43 : (M35.2.1 1 1).toInt = (M.2.1 1 1).toInt := congrArg Int32.toInt c_42
  have c_44 : M35.2.1 77 1 = (M.2.1 77 1) := (F_n F33 (show ¬ (77 = 77 ∧ 1 = 2 ∨ 94 ≤ 77 ∧ 77 ≤ 98 ∨ 77 = 120) by decide) (F_n F19 (show ¬ (11 ≤ 77 ∧ 77 ≤ 16 ∨ 18 ≤ 77 ∧ 77 ≤ 48 ∨ 67 ≤ 77 ∧ 77 ≤ 76) by decide) rfl))
  have t_45 : (M35.2.1 77 1).toInt = (M.2.1 77 1).toInt := congrArg Int32.toInt c_44
  have c_46 : M35.2.1 0 12 = (M.2.1 0 12) := (F_n F33 (show ¬ (0 = 77 ∧ 12 = 2 ∨ 94 ≤ 0 ∧ 0 ≤ 98 ∨ 0 = 120) by decide) (F_n F19 (show ¬ (11 ≤ 0 ∧ 0 ≤ 16 ∨ 18 ≤ 0 ∧ 0 ≤ 48 ∨ 67 ≤ 0 ∧ 0 ≤ 76) by decide) rfl))
  have t_47 : (M35.2.1 0 12).toInt = (M.2.1 0 12).toInt := congrArg Int32.toInt c_46
  have c_48 : M35.2.1 77 28 = (M.2.1 77 28) := (F_n F33 (show ¬ (77 = 77 ∧ 28 = 2 ∨ 94 ≤ 77 ∧ 77 ≤ 98 ∨ 77 = 120) by decide) (F_n F19 (show ¬ (11 ≤ 77 ∧ 77 ≤ 16 ∨ 18 ≤ 77 ∧ 77 ≤ 48 ∨ 67 ≤ 77 ∧ 77 ≤ 76) by decide) rfl))
  have t_49 : (M35.2.1 77 28).toInt = (M.2.1 77 28).toInt := congrArg Int32.toInt c_48
  have c_50 : M35.2.1 17 4 = (M.2.1 17 4) := (F_n F33 (show ¬ (17 = 77 ∧ 4 = 2 ∨ 94 ≤ 17 ∧ 17 ≤ 98 ∨ 17 = 120) by decide) (F_n F19 (show ¬ (11 ≤ 17 ∧ 17 ≤ 16 ∨ 18 ≤ 17 ∧ 17 ≤ 48 ∨ 67 ≤ 17 ∧ 17 ≤ 76) by decide) rfl))
  have t_51 : (M35.2.1 17 4).toInt = (M.2.1 17 4).toInt := congrArg Int32.toInt c_50
  have c_52 : M35.2.1 77 41 = (M.2.1 77 41) := (F_n F33 (show ¬ (77 = 77 ∧ 41 = 2 ∨ 94 ≤ 77 ∧ 77 ≤ 98 ∨ 77 = 120) by decide) (F_n F19 (show ¬ (11 ≤ 77 ∧ 77 ≤ 16 ∨ 18 ≤ 77 ∧ 77 ≤ 48 ∨ 67 ≤ 77 ∧ 77 ≤ 76) by decide) rfl))
  have t_53 : (M35.2.1 77 41).toInt = (M.2.1 77 41).toInt := congrArg Int32.toInt c_52
  have c_54 : M35.2.1 6 0 = (M.2.1 6 0) := (F_n F33 (show ¬ (6 = 77 ∧ 0 = 2 ∨ 94 ≤ 6 ∧ 6 ≤ 98 ∨ 6 = 120) by decide) (F_n F19 (show ¬ (11 ≤ 6 ∧ 6 ≤ 16 ∨ 18 ≤ 6 ∧ 6 ≤ 48 ∨ 67 ≤ 6 ∧ 6 ≤ 76) by decide) rfl))
  have t_55 : (M35.2.1 6 0).toInt = (M.2.1 6 0).toInt := congrArg Int32.toInt c_54
  have c_56 : M35.2.1 77 29 = (M.2.1 77 29) := (F_n F33 (show ¬ (77 = 77 ∧ 29 = 2 ∨ 94 ≤ 77 ∧ 77 ≤ 98 ∨ 77 = 120) by decide) (F_n F19 (show ¬ (11 ≤ 77 ∧ 77 ≤ 16 ∨ 18 ≤ 77 ∧ 77 ≤ 48 ∨ 67 ≤ 77 ∧ 77 ≤ 76) by decide) rfl))
  have t_57 : (M35.2.1 77 29).toInt = (M.2.1 77 29).toInt := congrArg Int32.toInt c_56
  have j_58 := (PI_f (tg_584 F33) p_21)
  have j_59 := (NI_f (tg_585 F33) p_22)
  have j_60 := (QI_f (tg_586 F33) p_23)
  have j_61 := (PQE_r F33.2.1 (PQE_r F19.2.1 jPQE))
  have j_62 := (FA_f (tg_587 F33) (FA_f (tg_443 F19) jFA))
  have j_63 := (WC_f (tg_588 F33) (WC_f (tg_445 F19) jWC))
  have j_64 := (NJ_f (tg_589 F33) j_31)
  have j_65 := (PS_f (tg_590 F33) (PS_f (tg_448 F19) jPS))
  have j_66 := (KQ_f (tg_591 F33) (KQ_f (tg_450 F19) jKQ))
  have j_67 := (TP_f (tg_592 F33) (TP_f (tg_452 F19) jTP))
  have j_68 := (W9_f (tg_593 F33) (W9_f (tg_454 F19) jW9))
  have j_69 := (AN_F F33 tg_614 (AN_F F19 tg_502 jAN))
  have j_70 := (NE_r F33.2.1 (NE_r F19.2.1 jNE))
  have j_71 := (W8_f (tg_594 F33) (W8_f (tg_456 F19) jW8))
  exact h M35 (u5) (u6) ⟨⟨⟨⟨⟨⟨⟨⟨hG34, ⟨j_58, j_59, j_60, j_61⟩, ⟨j_62, j_63, j_64, j_65, j_66⟩, by omega, by omega⟩, j_67, j_68⟩, j_70, by omega⟩, AN_a j_69⟩, by omega⟩, j_71⟩, by omega⟩, j_69⟩ (by omega) (by omega)
set_option maxRecDepth 4000 in
set_option maxHeartbeats 0 in
theorem LW_28 {X : mm_X} {d L : Nat} {M : mm_M} {Q : Option Value → mm_M → Prop} {i : Int32} {u5 u6 : Value} (hX : g_X X) (hW : g_W X) (hW2 : g_W2 X) (hL : (X 0).1 = L) (h3 : L ≤ 3072) (hd : 40 ≤ d) (hi : 0 ≤ i.toInt) (hi2 : i.toInt + 6 ≤ (L : Int)) (H : LI9 M) (h : ∀ (M1 : mm_M) (v5 v6 : Value), LI9 M1 → M1.1.2.1 ≤ M.1.2.1 + 1 → M1.1.2.2.1 ≤ M.1.2.2.1 + 6 → mm_T X d 0 1314 [.ref mm_ext, .ref 0, .ref 77, .ref 125, .int i, v5, v6] [] M1 Q) : mm_T X d 0 1240 [.ref mm_ext, .ref 0, .ref 77, .ref 125, .int i, u5, u6] [] M Q := by
  obtain ⟨⟨⟨⟨⟨⟨⟨⟨hG, ⟨jPI, jNI, jQI, jPQE⟩, ⟨jFA, jWC, jNJ, jPS, jKQ⟩, jJ, jE⟩, jTP, jW9⟩, jNE, jCC⟩, -⟩, jOV⟩, jW8⟩, jNN⟩, jAN⟩ := H
  have b_1 := g_b hG (a := 77) (i := 7) (lo := 0) (hi := 500) rfl rfl
  have b_2 := g_b hG (a := 77) (i := 6) (lo := 0) (hi := 500) rfl rfl
  have b_3 := g_b hG (a := 1) (i := 1) (lo := 0) (hi := 500) rfl rfl
  have b_4 := g_b hG (a := 77) (i := 1) (lo := 0) (hi := 500) rfl rfl
  have b_5 := g_b hG (a := 0) (i := 12) (lo := 0) (hi := 30) rfl rfl
  have b_6 := g_b hG (a := 77) (i := 28) (lo := 0) (hi := 30) rfl rfl
  have b_7 := g_b hG (a := 6) (i := 0) (lo := 0) (hi := 150) rfl rfl
  have b_8 := g_b hG (a := 77) (i := 29) (lo := 0) (hi := 150) rfl rfl
  refine to_an (pc := 1240) rw_0_1240 rfl (to_an (pc := 1241) rw_0_1241 rfl (to_i (pc := 1242) rw_0_1242 rfl (to_c (pc := 1244) rw_0_1244 (x := (1 : Int32)) rfl rfl (s_add (pc := 1245) rw_0_1245 (A := i.toInt) (B := 1) rfl rfl (by omega) (fun v9 e10 => s_x0 (pc := 1246) rw_0_1246 hL (A := v9.toInt) rfl (by omega) (by omega) (fun v11 e12 => to_an (pc := 1247) rw_0_1247 rfl (to_i (pc := 1248) rw_0_1248 rfl (to_c (pc := 1250) rw_0_1250 (x := (2 : Int32)) rfl rfl (s_add (pc := 1251) rw_0_1251 (A := i.toInt) (B := 2) rfl rfl (by omega) (fun v13 e14 => s_x0 (pc := 1252) rw_0_1252 hL (A := v13.toInt) rfl (by omega) (by omega) (fun v15 e16 => to_an (pc := 1253) rw_0_1253 rfl ?_)))))))))))
  refine to_i (pc := 1254) rw_0_1254 rfl (to_c (pc := 1256) rw_0_1256 (x := (3 : Int32)) rfl rfl (s_add (pc := 1257) rw_0_1257 (A := i.toInt) (B := 3) rfl rfl (by omega) (fun v17 e18 => s_x0 (pc := 1258) rw_0_1258 hL (A := v17.toInt) rfl (by omega) (by omega) (fun v19 e20 => s_v (pc := 1259) rw_0_1259 (dp0 hd (by decide)) (ls0 := [.ref 0, .int v11, .int v15, .int v19]) rfl (Nat.le_of_ble_eq_true rfl) (Nat.le_of_ble_eq_true rfl) rfl (to_rc rfl rfl rfl (g_o hG rfl)) rfl ?_))))
  obtain ⟨pz21, pzz21, qz21, qzz21, hpz21, hpzz21, hqz21, hqzz21, hpqz21⟩ := id jPQE
  refine C_137 hX (dp1 hd (by decide)) hG hpz21 hpzz21 hqz21 hqzz21 hpqz21 jNI jPI jQI (k := v11) (f := v15) (w := v19) (p := pz21) (pz := pzz21) (q := qz21) (qz := qzz21) (fun r22 M28 hG24 F23 p_25 p_26 p_27 => ?_)
  have n_29 : M28.1.2.1 = M.1.2.1 ∧ M28.1.2.2.1 = M.1.2.2.1 := by rw [F23.1]; exact ⟨rfl, rfl⟩
  refine to_popi (pc := 1262) rw_0_1262 (to_an (pc := 1263) rw_0_1263 rfl (to_an (pc := 1264) rw_0_1264 rfl (to_i (pc := 1265) rw_0_1265 rfl (to_c (pc := 1267) rw_0_1267 (x := (1 : Int32)) rfl rfl (s_addk (pc := 1268) rw_0_1268 (A := i.toInt) (B := 1) rfl rfl (by omega) (v := v9) e10 (s_x0k (pc := 1269) rw_0_1269 hL (A := v9.toInt) rfl (by omega) (by omega) (v := v11) e12 (to_an (pc := 1270) rw_0_1270 rfl (to_i (pc := 1271) rw_0_1271 rfl (to_c (pc := 1273) rw_0_1273 (x := (2 : Int32)) rfl rfl (s_addk (pc := 1274) rw_0_1274 (A := i.toInt) (B := 2) rfl rfl (by omega) (v := v13) e14 (s_x0k (pc := 1275) rw_0_1275 hL (A := v13.toInt) rfl (by omega) (by omega) (v := v15) e16 ?_)))))))))))
  refine to_an (pc := 1276) rw_0_1276 rfl (to_i (pc := 1277) rw_0_1277 rfl (to_c (pc := 1279) rw_0_1279 (x := (3 : Int32)) rfl rfl (s_addk (pc := 1280) rw_0_1280 (A := i.toInt) (B := 3) rfl rfl (by omega) (v := v17) e18 (s_x0k (pc := 1281) rw_0_1281 hL (A := v17.toInt) rfl (by omega) (by omega) (v := v19) e20 (s_v (pc := 1282) rw_0_1282 (dp0 hd (by decide)) (ls0 := [.ref 77, .int v11, .int v15, .int v19, .null, .null, .null]) rfl (Nat.le_of_ble_eq_true rfl) (Nat.le_of_ble_eq_true rfl) rfl (to_rc rfl rfl rfl (g_o hG24 rfl)) rfl ?_)))))
  have j_37 := (NJ_f (tg_438 F23) jNJ)
  have j_38 := (FA_f (tg_443 F23) jFA)
  refine C_245 hX (dp1 hd (by decide)) hG24 j_37 j_38 (p := v11) (f := v15) (w := v19) (fun r39 M42 hG41 F40 => ?_)
  have n_43 : M42.1.2.1 = M28.1.2.1 ∧ M42.1.2.2.1 = M28.1.2.2.1 := by rw [F40.1]; exact ⟨rfl, rfl⟩
  refine to_popi (pc := 1285) rw_0_1285 (to_go (pc := 1286) rw_0_1286 ?_)
  have c_45 : M42.2.1 77 7 = (M.2.1 77 7) := (F_n F40 (show ¬ (77 = 77 ∧ 7 = 2 ∨ 94 ≤ 77 ∧ 77 ≤ 98 ∨ 121 ≤ 77 ∧ 77 ≤ 124) by decide) (F_n F23 (show ¬ (11 ≤ 77 ∧ 77 ≤ 16 ∨ 18 ≤ 77 ∧ 77 ≤ 48 ∨ 67 ≤ 77 ∧ 77 ≤ 76) by decide) rfl))
  have t_46 : (M42.2.1 77 7).toInt = (M.2.1 77 7).toInt := congrArg Int32.toInt c_45
  have c_47 : M42.2.1 77 6 = (M.2.1 77 6) := (F_n F40 (show ¬ (77 = 77 ∧ 6 = 2 ∨ 94 ≤ 77 ∧ 77 ≤ 98 ∨ 121 ≤ 77 ∧ 77 ≤ 124) by decide) (F_n F23 (show ¬ (11 ≤ 77 ∧ 77 ≤ 16 ∨ 18 ≤ 77 ∧ 77 ≤ 48 ∨ 67 ≤ 77 ∧ 77 ≤ 76) by decide) rfl))
  have t_48 : (M42.2.1 77 6).toInt = (M.2.1 77 6).toInt := congrArg Int32.toInt c_47
  have c_49 : M42.2.1 1 1 = (M.2.1 1 1) := (F_n F40 (show ¬ (1 = 77 ∧ 1 = 2 ∨ 94 ≤ 1 ∧ 1 ≤ 98 ∨ 121 ≤ 1 ∧ 1 ≤ 124) by decide) (F_n F23 (show ¬ (11 ≤ 1 ∧ 1 ≤ 16 ∨ 18 ≤ 1 ∧ 1 ≤ 48 ∨ 67 ≤ 1 ∧ 1 ≤ 76) by decide) rfl))
  have t_50 : (M42.2.1 1 1).toInt = (M.2.1 1 1).toInt := congrArg Int32.toInt c_49
  have c_51 : M42.2.1 77 1 = (M.2.1 77 1) := (F_n F40 (show ¬ (77 = 77 ∧ 1 = 2 ∨ 94 ≤ 77 ∧ 77 ≤ 98 ∨ 121 ≤ 77 ∧ 77 ≤ 124) by decide) (F_n F23 (show ¬ (11 ≤ 77 ∧ 77 ≤ 16 ∨ 18 ≤ 77 ∧ 77 ≤ 48 ∨ 67 ≤ 77 ∧ 77 ≤ 76) by decide) rfl))
  have t_52 : (M42.2.1 77 1).toInt = (M.2.1 77 1).toInt := congrArg Int32.toInt c_51
  have c_53 : M42.2.1 0 12 = (M.2.1 0 12) := (F_n F40 (show ¬ (0 = 77 ∧ 12 = 2 ∨ 94 ≤ 0 ∧ 0 ≤ 98 ∨ 121 ≤ 0 ∧ 0 ≤ 124) by decide) (F_n F23 (show ¬ (11 ≤ 0 ∧ 0 ≤ 16 ∨ 18 ≤ 0 ∧ 0 ≤ 48 ∨ 67 ≤ 0 ∧ 0 ≤ 76) by decide) rfl))
  have t_54 : (M42.2.1 0 12).toInt = (M.2.1 0 12).toInt := congrArg Int32.toInt c_53
  have c_55 : M42.2.1 77 28 = (M.2.1 77 28) := (F_n F40 (show ¬ (77 = 77 ∧ 28 = 2 ∨ 94 ≤ 77 ∧ 77 ≤ 98 ∨ 121 ≤ 77 ∧ 77 ≤ 124) by decide) (F_n F23 (show ¬ (11 ≤ 77 ∧ 77 ≤ 16 ∨ 18 ≤ 77 ∧ 77 ≤ 48 ∨ 67 ≤ 77 ∧ 77 ≤ 76) by decide) rfl))
  have t_56 : (M42.2.1 77 28).toInt = (M.2.1 77 28).toInt := congrArg Int32.toInt c_55
  have c_57 : M42.2.1 17 4 = (M.2.1 17 4) := (F_n F40 (show ¬ (17 = 77 ∧ 4 = 2 ∨ 94 ≤ 17 ∧ 17 ≤ 98 ∨ 121 ≤ 17 ∧ 17 ≤ 124) by decide) (F_n F23 (show ¬ (11 ≤ 17 ∧ 17 ≤ 16 ∨ 18 ≤ 17 ∧ 17 ≤ 48 ∨ 67 ≤ 17 ∧ 17 ≤ 76) by decide) rfl))
  have t_58 : (M42.2.1 17 4).toInt = (M.2.1 17 4).toInt := congrArg Int32.toInt c_57
  have c_59 : M42.2.1 77 41 = (M.2.1 77 41) := (F_n F40 (show ¬ (77 = 77 ∧ 41 = 2 ∨ 94 ≤ 77 ∧ 77 ≤ 98 ∨ 121 ≤ 77 ∧ 77 ≤ 124) by decide) (F_n F23 (show ¬ (11 ≤ 77 ∧ 77 ≤ 16 ∨ 18 ≤ 77 ∧ 77 ≤ 48 ∨ 67 ≤ 77 ∧ 77 ≤ 76) by decide) rfl))
  have t_60 : (M42.2.1 77 41).toInt = (M.2.1 77 41).toInt := congrArg Int32.toInt c_59
  have c_61 : M42.2.1 6 0 = (M.2.1 6 0) := (F_n F40 (show ¬ (6 = 77 ∧ 0 = 2 ∨ 94 ≤ 6 ∧ 6 ≤ 98 ∨ 121 ≤ 6 ∧ 6 ≤ 124) by decide) (F_n F23 (show ¬ (11 ≤ 6 ∧ 6 ≤ 16 ∨ 18 ≤ 6 ∧ 6 ≤ 48 ∨ 67 ≤ 6 ∧ 6 ≤ 76) by decide) rfl))
  have t_62 : (M42.2.1 6 0).toInt = (M.2.1 6 0).toInt := congrArg Int32.toInt c_61
  have c_63 : M42.2.1 77 29 = (M.2.1 77 29) := (F_n F40 (show ¬ (77 = 77 ∧ 29 = 2 ∨ 94 ≤ 77 ∧ 77 ≤ 98 ∨ 121 ≤ 77 ∧ 77 ≤ 124) by decide) (F_n F23 (show ¬ (11 ≤ 77 ∧ 77 ≤ 16 ∨ 18 ≤ 77 ∧ 77 ≤ 48 ∨ 67 ≤ 77 ∧ 77 ≤ 76) by decide) rfl))
  have t_64 : (M42.2.1 77 29).toInt = (M.2.1 77 29).toInt := congrArg Int32.toInt c_63
  have j_65 := (PI_f (tg_595 F40) p_25)
  have j_66 := (NI_f (tg_596 F40) p_26)
  have j_67 := (QI_f (tg_597 F40) p_27)
  have j_68 := (PQE_r F40.2.1 (PQE_r F23.2.1 jPQE))
  have j_69 := (FA_f (tg_598 F40) j_38)
  have j_70 := (WC_f (tg_599 F40) (WC_f (tg_445 F23) jWC))
  have j_71 := (NJ_f (tg_600 F40) j_37)
  have j_72 := (PS_f (tg_601 F40) (PS_f (tg_448 F23) jPS))
  have j_73 := (KQ_f (tg_602 F40) (KQ_f (tg_450 F23) jKQ))
  have j_74 := (TP_f (tg_603 F40) (TP_f (tg_452 F23) jTP))
  have j_75 := (W9_f (tg_604 F40) (W9_f (tg_454 F23) jW9))
  have j_76 := (AN_F F40 tg_615 (AN_F F23 tg_502 jAN))
  have j_77 := (NE_r F40.2.1 (NE_r F23.2.1 jNE))
  have j_78 := (W8_f (tg_605 F40) (W8_f (tg_456 F23) jW8))
  exact h M42 (u5) (u6) ⟨⟨⟨⟨⟨⟨⟨⟨hG41, ⟨j_65, j_66, j_67, j_68⟩, ⟨j_69, j_70, j_71, j_72, j_73⟩, by omega, by omega⟩, j_74, j_75⟩, j_77, by omega⟩, AN_a j_76⟩, by omega⟩, j_78⟩, by omega⟩, j_76⟩ (by omega) (by omega)
set_option maxRecDepth 4000 in
set_option maxHeartbeats 0 in
theorem LW_29 {X : mm_X} {d L : Nat} {M : mm_M} {Q : Option Value → mm_M → Prop} {i : Int32} {u5 u6 : Value} (hX : g_X X) (hW : g_W X) (hW2 : g_W2 X) (hL : (X 0).1 = L) (h3 : L ≤ 3072) (hd : 40 ≤ d) (hi : 0 ≤ i.toInt) (hi2 : i.toInt + 6 ≤ (L : Int)) (H : LI9 M) (h : ∀ (M1 : mm_M) (v5 v6 : Value), LI9 M1 → M1.1.2.1 ≤ M.1.2.1 + 1 → M1.1.2.2.1 ≤ M.1.2.2.1 + 6 → mm_T X d 0 1314 [.ref mm_ext, .ref 0, .ref 77, .ref 125, .int i, v5, v6] [] M1 Q) : mm_T X d 0 1289 [.ref mm_ext, .ref 0, .ref 77, .ref 125, .int i, u5, u6] [] M Q := by
  obtain ⟨⟨⟨⟨⟨⟨⟨⟨hG, ⟨jPI, jNI, jQI, jPQE⟩, ⟨jFA, jWC, jNJ, jPS, jKQ⟩, jJ, jE⟩, jTP, jW9⟩, jNE, jCC⟩, -⟩, jOV⟩, jW8⟩, jNN⟩, jAN⟩ := H
  have b_1 := g_b hG (a := 77) (i := 7) (lo := 0) (hi := 500) rfl rfl
  have b_2 := g_b hG (a := 77) (i := 6) (lo := 0) (hi := 500) rfl rfl
  have b_3 := g_b hG (a := 1) (i := 1) (lo := 0) (hi := 500) rfl rfl
  have b_4 := g_b hG (a := 77) (i := 1) (lo := 0) (hi := 500) rfl rfl
  have b_5 := g_b hG (a := 0) (i := 12) (lo := 0) (hi := 30) rfl rfl
  have b_6 := g_b hG (a := 77) (i := 28) (lo := 0) (hi := 30) rfl rfl
  have b_7 := g_b hG (a := 6) (i := 0) (lo := 0) (hi := 150) rfl rfl
  have b_8 := g_b hG (a := 77) (i := 29) (lo := 0) (hi := 150) rfl rfl
  refine to_an (pc := 1289) rw_0_1289 rfl (to_an (pc := 1290) rw_0_1290 rfl (to_i (pc := 1291) rw_0_1291 rfl (to_c (pc := 1293) rw_0_1293 (x := (1 : Int32)) rfl rfl (s_add (pc := 1294) rw_0_1294 (A := i.toInt) (B := 1) rfl rfl (by omega) (fun v9 e10 => s_x0 (pc := 1295) rw_0_1295 hL (A := v9.toInt) rfl (by omega) (by omega) (fun v11 e12 => s_v (pc := 1296) rw_0_1296 (dp0 hd (by decide)) (ls0 := [.ref 0, .int v11]) rfl (Nat.le_of_ble_eq_true rfl) (Nat.le_of_ble_eq_true rfl) rfl (to_rc rfl rfl rfl (g_o hG rfl)) rfl ?_))))))
  obtain ⟨pz13, pzz13, qz13, qzz13, hpz13, hpzz13, hqz13, hqzz13, hpqz13⟩ := id jPQE
  refine C_138 hX (dp1 hd (by decide)) hG hpz13 hpzz13 hqz13 hqzz13 hpqz13 (w := v11) (p := pz13) (pz := pzz13) (q := qz13) (qz := qzz13) (fun r14 M17 hG16 F15 => ?_)
  have n_18 : M17.1.2.1 = M.1.2.1 ∧ M17.1.2.2.1 = M.1.2.2.1 := by rw [F15.1]; exact ⟨rfl, rfl⟩
  refine to_popi (pc := 1299) rw_0_1299 (to_an (pc := 1300) rw_0_1300 rfl (to_an (pc := 1301) rw_0_1301 rfl (to_i (pc := 1302) rw_0_1302 rfl (to_c (pc := 1304) rw_0_1304 (x := (1 : Int32)) rfl rfl (s_addk (pc := 1305) rw_0_1305 (A := i.toInt) (B := 1) rfl rfl (by omega) (v := v9) e10 (s_x0k (pc := 1306) rw_0_1306 hL (A := v9.toInt) rfl (by omega) (by omega) (v := v11) e12 (s_v (pc := 1307) rw_0_1307 (dp0 hd (by decide)) (ls0 := [.ref 77, .int v11]) rfl (Nat.le_of_ble_eq_true rfl) (Nat.le_of_ble_eq_true rfl) rfl (to_rc rfl rfl rfl (g_o hG16 rfl)) rfl (C_246 hX (dp1 hd (by decide)) hG16 (w := v11) (fun r22 M25 hG24 F23 => ?_)))))))))
  have n_26 : M25.1.2.1 = M17.1.2.1 ∧ M25.1.2.2.1 = M17.1.2.2.1 := by rw [F23.1]; exact ⟨rfl, rfl⟩
  refine to_popi (pc := 1310) rw_0_1310 (to_go (pc := 1311) rw_0_1311 ?_)
  have c_28 : M25.2.1 77 7 = (M.2.1 77 7) := (F_n F23 (show ¬ (77 = 77 ∧ 7 = 2) by decide) (F_n F15 (show ¬ (77 < 0) by decide) rfl))
  have t_29 : (M25.2.1 77 7).toInt = (M.2.1 77 7).toInt := congrArg Int32.toInt c_28
  have c_30 : M25.2.1 77 6 = (M.2.1 77 6) := (F_n F23 (show ¬ (77 = 77 ∧ 6 = 2) by decide) (F_n F15 (show ¬ (77 < 0) by decide) rfl))
  have t_31 : (M25.2.1 77 6).toInt = (M.2.1 77 6).toInt := congrArg Int32.toInt c_30
  have c_32 : M25.2.1 1 1 = (M.2.1 1 1) := (F_n F23 (show ¬ (1 = 77 ∧ 1 = 2) by decide) (F_n F15 (show ¬ (1 < 0) by decide) rfl))
  have t_33 : (M25.2.1 1 1).toInt = (M.2.1 1 1).toInt := congrArg Int32.toInt c_32
  have c_34 : M25.2.1 77 1 = (M.2.1 77 1) := (F_n F23 (show ¬ (77 = 77 ∧ 1 = 2) by decide) (F_n F15 (show ¬ (77 < 0) by decide) rfl))
  have t_35 : (M25.2.1 77 1).toInt = (M.2.1 77 1).toInt := congrArg Int32.toInt c_34
  have c_36 : M25.2.1 0 12 = (M.2.1 0 12) := (F_n F23 (show ¬ (0 = 77 ∧ 12 = 2) by decide) (F_n F15 (show ¬ (0 < 0) by decide) rfl))
  have t_37 : (M25.2.1 0 12).toInt = (M.2.1 0 12).toInt := congrArg Int32.toInt c_36
  have c_38 : M25.2.1 77 28 = (M.2.1 77 28) := (F_n F23 (show ¬ (77 = 77 ∧ 28 = 2) by decide) (F_n F15 (show ¬ (77 < 0) by decide) rfl))
  have t_39 : (M25.2.1 77 28).toInt = (M.2.1 77 28).toInt := congrArg Int32.toInt c_38
  have c_40 : M25.2.1 17 4 = (M.2.1 17 4) := (F_n F23 (show ¬ (17 = 77 ∧ 4 = 2) by decide) (F_n F15 (show ¬ (17 < 0) by decide) rfl))
  have t_41 : (M25.2.1 17 4).toInt = (M.2.1 17 4).toInt := congrArg Int32.toInt c_40
  have c_42 : M25.2.1 77 41 = (M.2.1 77 41) := (F_n F23 (show ¬ (77 = 77 ∧ 41 = 2) by decide) (F_n F15 (show ¬ (77 < 0) by decide) rfl))
  have t_43 : (M25.2.1 77 41).toInt = (M.2.1 77 41).toInt := congrArg Int32.toInt c_42
  have c_44 : M25.2.1 6 0 = (M.2.1 6 0) := (F_n F23 (show ¬ (6 = 77 ∧ 0 = 2) by decide) (F_n F15 (show ¬ (6 < 0) by decide) rfl))
  have t_45 : (M25.2.1 6 0).toInt = (M.2.1 6 0).toInt := congrArg Int32.toInt c_44
  have c_46 : M25.2.1 77 29 = (M.2.1 77 29) := (F_n F23 (show ¬ (77 = 77 ∧ 29 = 2) by decide) (F_n F15 (show ¬ (77 < 0) by decide) rfl))
  have t_47 : (M25.2.1 77 29).toInt = (M.2.1 77 29).toInt := congrArg Int32.toInt c_46
  have j_48 := (PI_f (tg_423 F23) (PI_f (tg_99 F15) jPI))
  have j_49 := (NI_f (tg_424 F23) (NI_f (tg_98 F15) jNI))
  have j_50 := (QI_f (tg_425 F23) (QI_f (tg_100 F15) jQI))
  have j_51 := (PQE_r F23.2.1 (PQE_r F15.2.1 jPQE))
  have j_52 := (FA_f (tg_426 F23) (FA_f (tg_218 F15) jFA))
  have j_53 := (WC_f (tg_427 F23) (WC_f (tg_428 F15) jWC))
  have j_54 := (NJ_f (tg_429 F23) (NJ_f (tg_102 F15) jNJ))
  have j_55 := (PS_f (tg_430 F23) (PS_f (tg_431 F15) jPS))
  have j_56 := (KQ_f (tg_432 F23) (KQ_f (tg_343 F15) jKQ))
  have j_57 := (TP_f (tg_433 F23) (TP_f (tg_434 F15) jTP))
  have j_58 := (W9_f (tg_435 F23) (W9_f (tg_46 F15) jW9))
  have j_59 := (AN_F F23 tg_499 (AN_F F15 tg_500 jAN))
  have j_60 := (NE_r F23.2.1 (NE_r F15.2.1 jNE))
  have j_61 := (W8_f (tg_436 F23) (W8_f (tg_437 F15) jW8))
  exact h M25 (u5) (u6) ⟨⟨⟨⟨⟨⟨⟨⟨hG24, ⟨j_48, j_49, j_50, j_51⟩, ⟨j_52, j_53, j_54, j_55, j_56⟩, by omega, by omega⟩, j_57, j_58⟩, j_60, by omega⟩, AN_a j_59⟩, by omega⟩, j_61⟩, by omega⟩, j_59⟩ (by omega) (by omega)
end
section
/-! THE FRESH MEMORY -/
noncomputable def fr_1a : mm_M := mm_new mm_M0 10 0 13
noncomputable def fr_A : mm_M := fr_m (fr_r 600 39 109 [.ref 0] fr_1a)
noncomputable def fr_2a : mm_M := mm_new fr_A 11 0 78
noncomputable def fr_B : mm_M := fr_m (fr_r 2000 39 146 [.ref 77] fr_2a)
noncomputable def cr_M : mm_M := mm_new fr_B 101 1 1
/-! the fresh memory, and those after runs that are the same for every script -/
theorem fr_Ar : (fr_r 600 39 109 [.ref 0] fr_1a).map (fun z => z.1) = some none := by decide +kernel
theorem fr_Br : (fr_r 2000 39 146 [.ref 77] fr_2a).map (fun z => z.1) = some none := by decide +kernel
theorem fr_Ae : fr_m (fr_r 600 39 109 [.ref 0] fr_1a) = fr_A := rfl
theorem fr_Be : fr_m (fr_r 2000 39 146 [.ref 77] fr_2a) = fr_B := rfl
theorem fr_0H : ns_H mm_M0 := fun a i z => nomatch z
theorem ns_new {M : mm_M} {c n k : Nat} (h : ns_H M) : ns_H (mm_new M c n k) := h
theorem fr_AH : ns_H fr_A := fr_H fr_Ar rfl (ns_new fr_0H) rfl
theorem fr_BH : ns_H fr_B := fr_H fr_Br rfl (ns_new fr_AH) rfl
theorem cr_M_H : ns_H cr_M := ns_new fr_BH
/-! A CHECKED RUN: each int written is nought, or within its bounds and not in a row that stays nought -/
noncomputable def cw_n (a : Nat) : Bool := Nat.beq a 7 || Nat.beq a 8 || Nat.beq a 9 || Nat.beq a 52 || Nat.beq a 53 || Nat.beq a 61 || Nat.beq a 62 || Nat.beq a 68 || Nat.beq a 69 || Nat.beq a 73 || Nat.beq a 74 || Nat.beq a 81 || Nat.beq a 82 || Nat.beq a 83 || Nat.beq a 84
noncomputable def cw_o (a i : Nat) (v : Int32) : Bool := decide (v = 0) || (!cw_n a && decide (g_lo a i ≤ v.toInt) && decide (v.toInt ≤ g_hi a i))
noncomputable def cw_w (q : mm_R) (st : List Value) : Bool := match q.1 with
  | .iastore => (match st with
    | .int x :: .int i :: .ref a :: _ => cw_o a i.toNatClampNeg x
    | _ => true)
  | .bastore => (match st with
    | .int x :: .int i :: .ref a :: _ => cw_o a i.toNatClampNeg (x &&& 1) && cw_o a i.toNatClampNeg x.toInt8.toInt32
    | _ => true)
  | .putfield _ => (match st with
    | .int x :: .ref a :: _ => cw_o a q.2.2.2.1 x
    | _ => true)
  | _ => true
noncomputable def CK (M : mm_M) : Prop := ∀ a i, cw_o a i (M.2.1 a i) = true
noncomputable def cw_P (o : mm_O) : Prop := match o with
  | .inl (_, _, _, M') => CK M'
  | _ => True
theorem CK_I {M : mm_M} {a i : Nat} {x : Int32} (h : CK M) (hx : cw_o a i x = true) : CK (mm_setI M a i x) := fun b j => by
  show cw_o b j (if b = a ∧ j = i then x else M.2.1 b j) = true
  by_cases e : b = a ∧ j = i
  · rw [if_pos e, e.1, e.2]; exact hx
  · rw [if_neg e]; exact h b j
theorem cw_pI {st : List Value} {K : Int32 → List Value → Prop} (h : ∀ x r, st = .int x :: r → K x r) : mm_pI st K True := by
  unfold mm_pI
  split
  · exact h _ _ rfl
  · trivial
theorem cw_pR {st : List Value} {K : Nat → List Value → Prop} (h : ∀ x r, st = .ref x :: r → K x r) : mm_pR st K True := by
  unfold mm_pR
  split
  · exact h _ _ rfl
  · trivial
theorem CK_rows : ∀ (n k : Nat) (M : mm_M), (mm_rows n k M).2 = M.2
  | 0, _, _ => rfl
  | n + 1, k, M => CK_rows n k (mm_new M 100 k k)
theorem CK_multi {M : mm_M} {n k : Nat} (h : CK M) : CK (mm_multi M n k) := h
set_option maxHeartbeats 4000000 in
theorem cw_step (X : mm_X) (q : mm_R) (pc : Nat) (ls st : List Value) (M : mm_M) (hw : cw_w q st = true) (h : CK M) : mm_stepK X q pc ls st M cw_P True := by
  obtain ⟨i, len, a, b, ps⟩ := q
  cases i with
  | getfield n =>
    clear hw
    refine mo_pR fun x r => mo_b ?_ trivial
    show (match ps with
      | 0 :: _ => cw_P (.inl (pc + len, ls, .int (M.2.1 x b) :: r, M))
      | 1 :: _ => cw_P (.inl (pc + len, ls, .int (M.2.1 x b) :: r, M))
      | 2 :: _ => cw_P (.inl (pc + len, ls, .long (M.2.2.1 x b) :: r, M))
      | 3 :: _ => mm_gO (M.2.2.2 x b) (fun y => cw_P (.inl (pc + len, ls, .ref y :: r, M))) True
      | _ => True)
    split <;> first | exact h | exact mo_gO (fun _ => h) | trivial
  | putfield n =>
    have hw2 : ∀ x y r, st = .int x :: .ref y :: r → cw_o y b x = true := by
      intro x y r e
      subst e
      exact hw
    clear hw
    show (match ps with
      | 0 :: _ => mm_pI st (fun x st => mm_pR st (fun y st => mm_b (mm_isObj M y a) (cw_P (.inl (pc + len, ls, st, mm_setI M y b x))) True) True) True
      | 1 :: _ => mm_pI st (fun x st => mm_pR st (fun y st => mm_b (mm_isObj M y a) (if x = 0 ∨ x = 1 then cw_P (.inl (pc + len, ls, st, mm_setI M y b x)) else True) True) True) True
      | 2 :: _ => mm_pL st (fun x st => mm_pR st (fun y st => mm_b (mm_isObj M y a) (cw_P (.inl (pc + len, ls, st, mm_setL M y b x))) True) True) True
      | 3 :: _ => mm_pR st (fun x st => mm_pR st (fun y st => mm_b (mm_isObj M y a) (mm_b (Nat.blt x M.1.1.1) (cw_P (.inl (pc + len, ls, st, mm_setR M y b (some x)))) True) True) True) True
      | _ => True)
    split
    · exact cw_pI fun x r e => cw_pR fun y r2 e2 => mo_b (CK_I h (hw2 x y r2 (by rw [e, e2]))) trivial
    · exact cw_pI fun x r e => cw_pR fun y r2 e2 => mo_b (mo_i (CK_I h (hw2 x y r2 (by rw [e, e2]))) trivial) trivial
    · exact mo_pL fun _ _ => mo_pR fun _ _ => mo_b h trivial
    · exact mo_pR fun _ _ => mo_pR fun _ _ => mo_b (mo_b h trivial) trivial
    · trivial
  | ireturn =>
    clear hw
    refine mo_pI fun x r => mo_e ?_
    show (match a with
      | 0 => cw_P (.inr (.inr (some (.int x))))
      | _ => if x = 0 ∨ x = 1 then cw_P (.inr (.inr (some (.int x)))) else True)
    split
    · trivial
    · exact mo_i trivial trivial
  | dup2 =>
    have h : mm_p1 st (fun v st => mm_p1 st (fun w st => cw_P (.inl (pc + len, ls, v :: w :: v :: w :: st, M))) True) True := mo_p1 fun _ _ => mo_p1 fun _ _ => h
    exact h
  | iastore => exact cw_pI fun _ _ e => cw_pI fun _ _ e2 => cw_pR fun _ _ e3 => mo_b (mo_i trivial (by subst e3; subst e2; subst e; exact CK_I h hw)) trivial
  | bastore =>
    refine cw_pI fun x r e => cw_pI fun i r2 e2 => cw_pR fun y r3 e3 => ?_
    subst e3; subst e2; subst e
    have hw2 : (cw_o y i.toNatClampNeg (x &&& 1) && cw_o y i.toNatClampNeg x.toInt8.toInt32) = true := hw
    rw [Bool.and_eq_true] at hw2
    exact mo_b (mo_i trivial (CK_I h hw2.1)) (mo_b (mo_i trivial (CK_I h hw2.2)) trivial)
  | new n => exact mo_b h trivial
  | newarray n => exact mo_pI fun _ _ => mo_i trivial (mo_b h trivial)
  | multianewarray n d => exact mo_pI fun _ _ => mo_pI fun _ _ => mo_i trivial (mo_b (CK_multi h) trivial)
  | _ =>
    first
      | trivial
      | exact h
      | exact mo_gR fun _ => h
      | exact mo_gI fun _ => h
      | exact mo_gI fun _ => mo_b h trivial
      | exact mo_gL fun _ => mo_b h trivial
      | exact mo_pI fun _ _ => mo_b h trivial
      | exact mo_pR fun _ _ => mo_b h trivial
      | exact mo_pL fun _ _ => mo_b h trivial
      | exact mo_pI fun _ _ => mo_pI fun _ _ => h
      | exact mo_pL fun _ _ => mo_pL fun _ _ => h
      | exact mo_pI fun _ _ => mo_pL fun _ _ => h
      | exact mo_pI fun _ _ => mo_pI fun _ _ => mo_i trivial h
      | exact mo_pL fun _ _ => mo_pL fun _ _ => mo_i trivial h
      | exact mo_pI fun _ _ => h
      | exact mo_pL fun _ _ => h
      | exact mo_p1 fun _ _ => h
      | exact mo_pI fun _ _ => mo_c h h
      | exact mo_pI fun _ _ => mo_pI fun _ _ => mo_c h h
      | exact mo_pI fun _ _ => mo_i h (mo_gO fun _ => h)
      | exact mo_pI fun _ _ => mo_pR fun _ _ => mo_b (mo_i trivial h) (mo_b (mo_i trivial h) trivial)
      | exact mo_pI fun _ _ => mo_pR fun _ _ => mo_b (mo_i trivial h) trivial
      | exact mo_pI fun _ _ => mo_pR fun _ _ => mo_b (mo_i trivial (mo_gO fun _ => h)) trivial
      | exact mo_pL fun _ _ => mo_pI fun _ _ => mo_pR fun _ _ => mo_b (mo_i trivial h) trivial
      | exact mo_pR fun _ _ => mo_b h (mo_b h trivial)
      | exact mo_pop fun _ _ => trivial
      | exact mo_b (mo_pR fun _ _ => mo_e h) (mo_pop fun _ _ => trivial)
      | exact mo_b (mo_pI fun _ _ => mo_pI fun _ _ => mo_b h trivial) (mo_b (mo_pI fun _ _ => mo_pI fun _ _ => mo_b h trivial) (mo_pop fun _ _ => trivial))
      | exact mo_pL fun _ _ => mo_e trivial
      | exact mo_e trivial
noncomputable def cw_run (X : mm_X) : Nat → Nat → Nat → Nat → List Value → List Value → mm_M → Option (Option Value × mm_M)
  | 0, _, _, _, _, _, _ => none
  | n + 1, d, mi, pc, ls, st, M => match mm_code mi pc with
    | none => none
    | some q => bif cw_w q st then mm_stepK X q pc ls st M (fun o => match o with
      | .inl (pc', ls', st', M') => cw_run X n d mi pc' ls' st' M'
      | .inr (.inr r) => some (r, M)
      | .inr (.inl (y, as, rest)) => match d, Nat.ble (mm_w8 rest) 8 with
        | d' + 1, true => match (bif Nat.beq y 998 then none else bif mm_rc M y as then cw_run X n d' y 0 (mm_entry y as) [] M else none) with
          | none => none
          | some (r, M') => cw_run X n (d' + 1) mi (pc + 3) ls (r.toList ++ rest) M'
        | _, _ => none) none else none
set_option maxHeartbeats 4000000 in
theorem cw_run_1 {X : mm_X} : ∀ {n d mi pc : Nat} {ls st : List Value} {M : mm_M} {z : Option Value × mm_M}, cw_run X n d mi pc ls st M = some z → mm_run X n d mi pc ls st M = some z ∧ (CK M → CK z.2)
  | 0, _, _, _, _, _, _, _, h => nomatch h
  | n + 1, d, mi, pc, ls, st, M, z, h => by
    unfold cw_run at h
    unfold mm_run
    cases hc : mm_code mi pc with
    | none => rw [hc] at h; cases h
    | some q =>
      rw [hc] at h
      simp only [] at h ⊢
      cases hw : cw_w q st with
      | false => rw [hw] at h; cases h
      | true =>
        rw [hw, cond_true] at h
        have hP : CK M → mm_stepK X q pc ls st M cw_P True := cw_step X q pc ls st M hw
        rw [mm_stepK_eq] at h hP ⊢
        cases hs : mm_step X q pc ls st M with
        | none => rw [hs] at h; cases h
        | some o =>
          rw [hs] at h hP
          match o, h, hP with
          | .inl (pc', ls', st', M'), h, hP =>
            have g := cw_run_1 h
            exact ⟨g.1, fun k => g.2 (hP k)⟩
          | .inr (.inr r'), h, hP =>
            cases h
            exact ⟨rfl, fun k => k⟩
          | .inr (.inl (y, as, rest)), h, hP =>
            match d, h with
            | 0, h => cases h
            | d' + 1, h =>
              cases hb : Nat.ble (mm_w8 rest) 8 with
              | false =>
                simp only [hb] at h
                cases h
              | true =>
                simp only [hb] at h ⊢
                cases e1 : Nat.beq y 998 with
                | true => rw [e1, cond_true] at h; cases h
                | false =>
                  rw [e1, cond_false] at h
                  rw [cond_false]
                  cases hr : mm_rc M y as with
                  | false => rw [hr, cond_false] at h; cases h
                  | true =>
                    rw [hr, cond_true] at h
                    rw [cond_true]
                    cases hk : cw_run X n d' y 0 (mm_entry y as) [] M with
                    | none => rw [hk] at h; cases h
                    | some w =>
                      obtain ⟨r1, M1⟩ := w
                      rw [hk] at h
                      have g1 := cw_run_1 hk
                      have g2 := cw_run_1 h
                      rw [g1.1]
                      exact ⟨g2.1, fun k => g2.2 (g1.2 k)⟩
noncomputable def cw_r (n d y : Nat) (as : List Value) (M : mm_M) : Option (Option Value × mm_M) := cw_run (fr_X 0 (fun _ => 0)) n d y 0 (mm_entry y as) [] M
theorem CK_m {n d y : Nat} {as : List Value} {M : mm_M} (h : (cw_r n d y as M).isSome = true) (h0 : CK M) : CK (fr_m (fr_r n d y as M)) := by
  cases hr : cw_r n d y as M with
  | none => rw [hr] at h; cases h
  | some z =>
    have g := cw_run_1 hr
    have e : fr_r n d y as M = some z := g.1
    rw [e]
    exact g.2 h0
theorem bl_f {i k : Nat} (h : k ≤ i) : Nat.blt i k = false := by
  cases e : Nat.blt i k with
  | false => rfl
  | true => exact absurd (Nat.le_of_ble_eq_true e) (by omega)
theorem g_lo_i {a i : Nat} (h : 100 ≤ i) : g_lo a i = g_lo a 100 := by
  unfold g_lo
  simp only [bl_f (show 1 ≤ i by omega), bl_f (show 1 ≤ 100 by decide), bl_f (show 2 ≤ i by omega), bl_f (show 2 ≤ 100 by decide), bl_f (show 3 ≤ i by omega), bl_f (show 3 ≤ 100 by decide), bl_f (show 4 ≤ i by omega), bl_f (show 4 ≤ 100 by decide), bl_f (show 5 ≤ i by omega), bl_f (show 5 ≤ 100 by decide), bl_f (show 6 ≤ i by omega), bl_f (show 6 ≤ 100 by decide), bl_f (show 7 ≤ i by omega), bl_f (show 7 ≤ 100 by decide), bl_f (show 9 ≤ i by omega), bl_f (show 9 ≤ 100 by decide), bl_f (show 10 ≤ i by omega), bl_f (show 10 ≤ 100 by decide), bl_f (show 11 ≤ i by omega), bl_f (show 11 ≤ 100 by decide), bl_f (show 12 ≤ i by omega), bl_f (show 12 ≤ 100 by decide), bl_f (show 13 ≤ i by omega), bl_f (show 13 ≤ 100 by decide), bl_f (show 14 ≤ i by omega), bl_f (show 14 ≤ 100 by decide), bl_f (show 15 ≤ i by omega), bl_f (show 15 ≤ 100 by decide), bl_f (show 17 ≤ i by omega), bl_f (show 17 ≤ 100 by decide), bl_f (show 28 ≤ i by omega), bl_f (show 28 ≤ 100 by decide), bl_f (show 30 ≤ i by omega), bl_f (show 30 ≤ 100 by decide), bl_f (show 43 ≤ i by omega), bl_f (show 43 ≤ 100 by decide), bl_f (show 45 ≤ i by omega), bl_f (show 45 ≤ 100 by decide), bl_f (show 52 ≤ i by omega), bl_f (show 52 ≤ 100 by decide), bl_f (show 53 ≤ i by omega), bl_f (show 53 ≤ 100 by decide), bl_f (show 57 ≤ i by omega), bl_f (show 57 ≤ 100 by decide), bl_f (show 60 ≤ i by omega), bl_f (show 60 ≤ 100 by decide), bl_f (show 65 ≤ i by omega), bl_f (show 65 ≤ 100 by decide), bl_f (show 70 ≤ i by omega), bl_f (show 70 ≤ 100 by decide), cond_false]
theorem g_lo_a {a i : Nat} (h : 126 ≤ a) : g_lo a i = -2147483648 := by
  unfold g_lo
  simp only [bl_f (show 1 ≤ a by omega), bl_f (show 2 ≤ a by omega), bl_f (show 6 ≤ a by omega), bl_f (show 7 ≤ a by omega), bl_f (show 9 ≤ a by omega), bl_f (show 16 ≤ a by omega), bl_f (show 17 ≤ a by omega), bl_f (show 19 ≤ a by omega), bl_f (show 27 ≤ a by omega), bl_f (show 28 ≤ a by omega), bl_f (show 29 ≤ a by omega), bl_f (show 30 ≤ a by omega), bl_f (show 33 ≤ a by omega), bl_f (show 34 ≤ a by omega), bl_f (show 36 ≤ a by omega), bl_f (show 39 ≤ a by omega), bl_f (show 40 ≤ a by omega), bl_f (show 42 ≤ a by omega), bl_f (show 43 ≤ a by omega), bl_f (show 44 ≤ a by omega), bl_f (show 45 ≤ a by omega), bl_f (show 49 ≤ a by omega), bl_f (show 50 ≤ a by omega), bl_f (show 51 ≤ a by omega), bl_f (show 55 ≤ a by omega), bl_f (show 56 ≤ a by omega), bl_f (show 57 ≤ a by omega), bl_f (show 58 ≤ a by omega), bl_f (show 59 ≤ a by omega), bl_f (show 60 ≤ a by omega), bl_f (show 64 ≤ a by omega), bl_f (show 65 ≤ a by omega), bl_f (show 66 ≤ a by omega), bl_f (show 67 ≤ a by omega), bl_f (show 68 ≤ a by omega), bl_f (show 70 ≤ a by omega), bl_f (show 72 ≤ a by omega), bl_f (show 73 ≤ a by omega), bl_f (show 75 ≤ a by omega), bl_f (show 77 ≤ a by omega), bl_f (show 78 ≤ a by omega), bl_f (show 79 ≤ a by omega), bl_f (show 81 ≤ a by omega), bl_f (show 85 ≤ a by omega), bl_f (show 86 ≤ a by omega), bl_f (show 87 ≤ a by omega), bl_f (show 90 ≤ a by omega), bl_f (show 92 ≤ a by omega), bl_f (show 94 ≤ a by omega), bl_f (show 95 ≤ a by omega), bl_f (show 99 ≤ a by omega), bl_f (show 102 ≤ a by omega), bl_f (show 105 ≤ a by omega), bl_f (show 106 ≤ a by omega), bl_f (show 108 ≤ a by omega), bl_f (show 114 ≤ a by omega), bl_f (show 115 ≤ a by omega), bl_f (show 120 ≤ a by omega), bl_f (show 121 ≤ a by omega), bl_f (show 125 ≤ a by omega), cond_false]
theorem g_hi_i {a i : Nat} (h : 100 ≤ i) : g_hi a i = g_hi a 100 := by
  unfold g_hi
  simp only [bl_f (show 1 ≤ i by omega), bl_f (show 1 ≤ 100 by decide), bl_f (show 2 ≤ i by omega), bl_f (show 2 ≤ 100 by decide), bl_f (show 3 ≤ i by omega), bl_f (show 3 ≤ 100 by decide), bl_f (show 4 ≤ i by omega), bl_f (show 4 ≤ 100 by decide), bl_f (show 5 ≤ i by omega), bl_f (show 5 ≤ 100 by decide), bl_f (show 6 ≤ i by omega), bl_f (show 6 ≤ 100 by decide), bl_f (show 7 ≤ i by omega), bl_f (show 7 ≤ 100 by decide), bl_f (show 8 ≤ i by omega), bl_f (show 8 ≤ 100 by decide), bl_f (show 9 ≤ i by omega), bl_f (show 9 ≤ 100 by decide), bl_f (show 10 ≤ i by omega), bl_f (show 10 ≤ 100 by decide), bl_f (show 11 ≤ i by omega), bl_f (show 11 ≤ 100 by decide), bl_f (show 12 ≤ i by omega), bl_f (show 12 ≤ 100 by decide), bl_f (show 13 ≤ i by omega), bl_f (show 13 ≤ 100 by decide), bl_f (show 14 ≤ i by omega), bl_f (show 14 ≤ 100 by decide), bl_f (show 15 ≤ i by omega), bl_f (show 15 ≤ 100 by decide), bl_f (show 16 ≤ i by omega), bl_f (show 16 ≤ 100 by decide), bl_f (show 17 ≤ i by omega), bl_f (show 17 ≤ 100 by decide), bl_f (show 28 ≤ i by omega), bl_f (show 28 ≤ 100 by decide), bl_f (show 29 ≤ i by omega), bl_f (show 29 ≤ 100 by decide), bl_f (show 30 ≤ i by omega), bl_f (show 30 ≤ 100 by decide), bl_f (show 43 ≤ i by omega), bl_f (show 43 ≤ 100 by decide), bl_f (show 44 ≤ i by omega), bl_f (show 44 ≤ 100 by decide), bl_f (show 45 ≤ i by omega), bl_f (show 45 ≤ 100 by decide), bl_f (show 52 ≤ i by omega), bl_f (show 52 ≤ 100 by decide), bl_f (show 53 ≤ i by omega), bl_f (show 53 ≤ 100 by decide), bl_f (show 57 ≤ i by omega), bl_f (show 57 ≤ 100 by decide), bl_f (show 58 ≤ i by omega), bl_f (show 58 ≤ 100 by decide), bl_f (show 60 ≤ i by omega), bl_f (show 60 ≤ 100 by decide), bl_f (show 65 ≤ i by omega), bl_f (show 65 ≤ 100 by decide), bl_f (show 66 ≤ i by omega), bl_f (show 66 ≤ 100 by decide), bl_f (show 67 ≤ i by omega), bl_f (show 67 ≤ 100 by decide), bl_f (show 68 ≤ i by omega), bl_f (show 68 ≤ 100 by decide), bl_f (show 69 ≤ i by omega), bl_f (show 69 ≤ 100 by decide), bl_f (show 70 ≤ i by omega), bl_f (show 70 ≤ 100 by decide), cond_false]
theorem g_hi_a {a i : Nat} (h : 126 ≤ a) : g_hi a i = 2147483647 := by
  unfold g_hi
  simp only [bl_f (show 1 ≤ a by omega), bl_f (show 2 ≤ a by omega), bl_f (show 6 ≤ a by omega), bl_f (show 7 ≤ a by omega), bl_f (show 8 ≤ a by omega), bl_f (show 9 ≤ a by omega), bl_f (show 16 ≤ a by omega), bl_f (show 17 ≤ a by omega), bl_f (show 19 ≤ a by omega), bl_f (show 25 ≤ a by omega), bl_f (show 26 ≤ a by omega), bl_f (show 27 ≤ a by omega), bl_f (show 28 ≤ a by omega), bl_f (show 29 ≤ a by omega), bl_f (show 30 ≤ a by omega), bl_f (show 33 ≤ a by omega), bl_f (show 34 ≤ a by omega), bl_f (show 35 ≤ a by omega), bl_f (show 36 ≤ a by omega), bl_f (show 39 ≤ a by omega), bl_f (show 40 ≤ a by omega), bl_f (show 42 ≤ a by omega), bl_f (show 43 ≤ a by omega), bl_f (show 44 ≤ a by omega), bl_f (show 45 ≤ a by omega), bl_f (show 49 ≤ a by omega), bl_f (show 50 ≤ a by omega), bl_f (show 51 ≤ a by omega), bl_f (show 52 ≤ a by omega), bl_f (show 53 ≤ a by omega), bl_f (show 54 ≤ a by omega), bl_f (show 55 ≤ a by omega), bl_f (show 56 ≤ a by omega), bl_f (show 57 ≤ a by omega), bl_f (show 58 ≤ a by omega), bl_f (show 59 ≤ a by omega), bl_f (show 60 ≤ a by omega), bl_f (show 61 ≤ a by omega), bl_f (show 62 ≤ a by omega), bl_f (show 63 ≤ a by omega), bl_f (show 64 ≤ a by omega), bl_f (show 65 ≤ a by omega), bl_f (show 66 ≤ a by omega), bl_f (show 67 ≤ a by omega), bl_f (show 68 ≤ a by omega), bl_f (show 69 ≤ a by omega), bl_f (show 70 ≤ a by omega), bl_f (show 72 ≤ a by omega), bl_f (show 73 ≤ a by omega), bl_f (show 74 ≤ a by omega), bl_f (show 75 ≤ a by omega), bl_f (show 77 ≤ a by omega), bl_f (show 78 ≤ a by omega), bl_f (show 79 ≤ a by omega), bl_f (show 81 ≤ a by omega), bl_f (show 82 ≤ a by omega), bl_f (show 83 ≤ a by omega), bl_f (show 84 ≤ a by omega), bl_f (show 85 ≤ a by omega), bl_f (show 86 ≤ a by omega), bl_f (show 87 ≤ a by omega), bl_f (show 90 ≤ a by omega), bl_f (show 91 ≤ a by omega), bl_f (show 92 ≤ a by omega), bl_f (show 94 ≤ a by omega), bl_f (show 95 ≤ a by omega), bl_f (show 99 ≤ a by omega), bl_f (show 100 ≤ a by omega), bl_f (show 101 ≤ a by omega), bl_f (show 102 ≤ a by omega), bl_f (show 103 ≤ a by omega), bl_f (show 105 ≤ a by omega), bl_f (show 106 ≤ a by omega), bl_f (show 108 ≤ a by omega), bl_f (show 109 ≤ a by omega), bl_f (show 110 ≤ a by omega), bl_f (show 111 ≤ a by omega), bl_f (show 112 ≤ a by omega), bl_f (show 113 ≤ a by omega), bl_f (show 114 ≤ a by omega), bl_f (show 115 ≤ a by omega), bl_f (show 116 ≤ a by omega), bl_f (show 117 ≤ a by omega), bl_f (show 118 ≤ a by omega), bl_f (show 119 ≤ a by omega), bl_f (show 120 ≤ a by omega), bl_f (show 121 ≤ a by omega), bl_f (show 123 ≤ a by omega), bl_f (show 124 ≤ a by omega), bl_f (show 125 ≤ a by omega), cond_false]
theorem g_rf_i {a i : Nat} (h : 80 ≤ i) : g_rf a i = g_rf a 80 := by
  unfold g_rf
  simp only [bl_f (show 1 ≤ i by omega), bl_f (show 1 ≤ 80 by decide), bl_f (show 2 ≤ i by omega), bl_f (show 2 ≤ 80 by decide), bl_f (show 3 ≤ i by omega), bl_f (show 3 ≤ 80 by decide), bl_f (show 4 ≤ i by omega), bl_f (show 4 ≤ 80 by decide), bl_f (show 5 ≤ i by omega), bl_f (show 5 ≤ 80 by decide), bl_f (show 6 ≤ i by omega), bl_f (show 6 ≤ 80 by decide), bl_f (show 7 ≤ i by omega), bl_f (show 7 ≤ 80 by decide), bl_f (show 8 ≤ i by omega), bl_f (show 8 ≤ 80 by decide), bl_f (show 9 ≤ i by omega), bl_f (show 9 ≤ 80 by decide), bl_f (show 10 ≤ i by omega), bl_f (show 10 ≤ 80 by decide), bl_f (show 11 ≤ i by omega), bl_f (show 11 ≤ 80 by decide), bl_f (show 12 ≤ i by omega), bl_f (show 12 ≤ 80 by decide), bl_f (show 13 ≤ i by omega), bl_f (show 13 ≤ 80 by decide), bl_f (show 17 ≤ i by omega), bl_f (show 17 ≤ 80 by decide), bl_f (show 18 ≤ i by omega), bl_f (show 18 ≤ 80 by decide), bl_f (show 19 ≤ i by omega), bl_f (show 19 ≤ 80 by decide), bl_f (show 20 ≤ i by omega), bl_f (show 20 ≤ 80 by decide), bl_f (show 21 ≤ i by omega), bl_f (show 21 ≤ 80 by decide), bl_f (show 22 ≤ i by omega), bl_f (show 22 ≤ 80 by decide), bl_f (show 23 ≤ i by omega), bl_f (show 23 ≤ 80 by decide), bl_f (show 24 ≤ i by omega), bl_f (show 24 ≤ 80 by decide), bl_f (show 25 ≤ i by omega), bl_f (show 25 ≤ 80 by decide), bl_f (show 26 ≤ i by omega), bl_f (show 26 ≤ 80 by decide), bl_f (show 27 ≤ i by omega), bl_f (show 27 ≤ 80 by decide), bl_f (show 28 ≤ i by omega), bl_f (show 28 ≤ 80 by decide), bl_f (show 30 ≤ i by omega), bl_f (show 30 ≤ 80 by decide), bl_f (show 31 ≤ i by omega), bl_f (show 31 ≤ 80 by decide), bl_f (show 32 ≤ i by omega), bl_f (show 32 ≤ 80 by decide), bl_f (show 33 ≤ i by omega), bl_f (show 33 ≤ 80 by decide), bl_f (show 34 ≤ i by omega), bl_f (show 34 ≤ 80 by decide), bl_f (show 35 ≤ i by omega), bl_f (show 35 ≤ 80 by decide), bl_f (show 36 ≤ i by omega), bl_f (show 36 ≤ 80 by decide), bl_f (show 37 ≤ i by omega), bl_f (show 37 ≤ 80 by decide), bl_f (show 38 ≤ i by omega), bl_f (show 38 ≤ 80 by decide), bl_f (show 39 ≤ i by omega), bl_f (show 39 ≤ 80 by decide), bl_f (show 40 ≤ i by omega), bl_f (show 40 ≤ 80 by decide), bl_f (show 41 ≤ i by omega), bl_f (show 41 ≤ 80 by decide), bl_f (show 45 ≤ i by omega), bl_f (show 45 ≤ 80 by decide), bl_f (show 46 ≤ i by omega), bl_f (show 46 ≤ 80 by decide), bl_f (show 47 ≤ i by omega), bl_f (show 47 ≤ 80 by decide), bl_f (show 48 ≤ i by omega), bl_f (show 48 ≤ 80 by decide), bl_f (show 49 ≤ i by omega), bl_f (show 49 ≤ 80 by decide), bl_f (show 50 ≤ i by omega), bl_f (show 50 ≤ 80 by decide), bl_f (show 51 ≤ i by omega), bl_f (show 51 ≤ 80 by decide), bl_f (show 52 ≤ i by omega), bl_f (show 52 ≤ 80 by decide), bl_f (show 53 ≤ i by omega), bl_f (show 53 ≤ 80 by decide), bl_f (show 54 ≤ i by omega), bl_f (show 54 ≤ 80 by decide), bl_f (show 55 ≤ i by omega), bl_f (show 55 ≤ 80 by decide), bl_f (show 56 ≤ i by omega), bl_f (show 56 ≤ 80 by decide), bl_f (show 57 ≤ i by omega), bl_f (show 57 ≤ 80 by decide), bl_f (show 60 ≤ i by omega), bl_f (show 60 ≤ 80 by decide), bl_f (show 61 ≤ i by omega), bl_f (show 61 ≤ 80 by decide), bl_f (show 62 ≤ i by omega), bl_f (show 62 ≤ 80 by decide), bl_f (show 63 ≤ i by omega), bl_f (show 63 ≤ 80 by decide), bl_f (show 64 ≤ i by omega), bl_f (show 64 ≤ 80 by decide), bl_f (show 65 ≤ i by omega), bl_f (show 65 ≤ 80 by decide), bl_f (show 70 ≤ i by omega), bl_f (show 70 ≤ 80 by decide), bl_f (show 71 ≤ i by omega), bl_f (show 71 ≤ 80 by decide), bl_f (show 72 ≤ i by omega), bl_f (show 72 ≤ 80 by decide), bl_f (show 73 ≤ i by omega), bl_f (show 73 ≤ 80 by decide), bl_f (show 74 ≤ i by omega), bl_f (show 74 ≤ 80 by decide), bl_f (show 75 ≤ i by omega), bl_f (show 75 ≤ 80 by decide), bl_f (show 76 ≤ i by omega), bl_f (show 76 ≤ 80 by decide), bl_f (show 77 ≤ i by omega), bl_f (show 77 ≤ 80 by decide), bl_f (show 78 ≤ i by omega), bl_f (show 78 ≤ 80 by decide), cond_false]
theorem g_rf_a {a i : Nat} (h : 126 ≤ a) : g_rf a i = none := by
  unfold g_rf
  simp only [bl_f (show 1 ≤ a by omega), bl_f (show 2 ≤ a by omega), bl_f (show 6 ≤ a by omega), bl_f (show 7 ≤ a by omega), bl_f (show 11 ≤ a by omega), bl_f (show 12 ≤ a by omega), bl_f (show 17 ≤ a by omega), bl_f (show 18 ≤ a by omega), bl_f (show 19 ≤ a by omega), bl_f (show 28 ≤ a by omega), bl_f (show 29 ≤ a by omega), bl_f (show 36 ≤ a by omega), bl_f (show 37 ≤ a by omega), bl_f (show 39 ≤ a by omega), bl_f (show 40 ≤ a by omega), bl_f (show 42 ≤ a by omega), bl_f (show 43 ≤ a by omega), bl_f (show 49 ≤ a by omega), bl_f (show 50 ≤ a by omega), bl_f (show 58 ≤ a by omega), bl_f (show 59 ≤ a by omega), bl_f (show 67 ≤ a by omega), bl_f (show 68 ≤ a by omega), bl_f (show 72 ≤ a by omega), bl_f (show 73 ≤ a by omega), bl_f (show 77 ≤ a by omega), bl_f (show 78 ≤ a by omega), bl_f (show 126 ≤ a by omega), cond_false]
noncomputable def bx_c (a i : Nat) : Bool := (Nat.beq a 49 && Nat.beq i 0) || (Nat.beq a 58 && Nat.beq i 0) || (Nat.beq a 77 && Nat.beq i 11) || (Nat.beq a 77 && Nat.beq i 14)
noncomputable def bx_b : Bool := (List.range 126).all fun a => (List.range 101).all fun i => bx_c a i || (decide (g_lo a i ≤ 0) && decide (0 ≤ g_hi a i))
theorem bx_t : bx_b = true := by decide +kernel
theorem bx_1 {a i : Nat} (ha : a < 126) (hi : i < 101) : (bx_c a i || (decide (g_lo a i ≤ 0) && decide (0 ≤ g_hi a i))) = true := List.all_eq_true.mp (List.all_eq_true.mp bx_t a (List.mem_range.mpr ha)) i (List.mem_range.mpr hi)
theorem bx_0 (a i : Nat) : bx_c a i = true ∨ (g_lo a i ≤ 0 ∧ 0 ≤ g_hi a i) := by
  by_cases ha : a < 126
  · by_cases hi : i < 101
    · have h := bx_1 ha hi
      rw [Bool.or_eq_true, Bool.and_eq_true, decide_eq_true_eq, decide_eq_true_eq] at h
      exact h
    · have h := bx_1 (i := 100) ha (by omega)
      rw [Bool.or_eq_true, Bool.and_eq_true, decide_eq_true_eq, decide_eq_true_eq] at h
      rcases h with h | h
      · exfalso
        revert h
        unfold bx_c
        rw [show Nat.beq 100 0 = false from rfl, show Nat.beq 100 11 = false from rfl, show Nat.beq 100 14 = false from rfl]
        simp only [Bool.and_false, Bool.or_false]
        exact fun z => nomatch z
      · right
        rw [g_lo_i (by omega), g_hi_i (by omega)]
        exact h
  · right
    rw [g_lo_a (by omega), g_hi_a (by omega)]
    omega
theorem CK_0 : CK mm_M0 := fun _ _ => rfl
theorem CK_new {M : mm_M} {c n k : Nat} (h : CK M) : CK (mm_new M c n k) := h
theorem cw_A : (cw_r 600 39 109 [.ref 0] fr_1a).isSome = true := by decide +kernel
theorem cw_B : (cw_r 2000 39 146 [.ref 77] fr_2a).isSome = true := by decide +kernel
theorem CK_A : CK fr_A := CK_m cw_A (CK_new CK_0)
theorem CK_B : CK fr_B := CK_m cw_B (CK_new CK_A)
theorem CK_M : CK cr_M := CK_new CK_B
noncomputable def fs_t (M : mm_M) : Bool := Nat.beq M.1.1.1 126 && (List.range 126).all fun a => Nat.beq (M.1.1.2.1 a) (g_ty a) && Nat.beq (M.1.1.2.2 a) (g_ln a)
noncomputable def fs_r (M : mm_M) : Bool := (List.range 126).all fun a => (List.range 81).all fun i => match g_rf a i with
  | none => true
  | some v => decide (M.2.2.2 a i = some v)
noncomputable def fs_c (M : mm_M) : Bool := decide (M.2.1 79 69 = 32) && (decide (g_lo 49 0 ≤ (M.2.1 49 0).toInt ∧ (M.2.1 49 0).toInt ≤ g_hi 49 0) && decide (g_lo 58 0 ≤ (M.2.1 58 0).toInt ∧ (M.2.1 58 0).toInt ≤ g_hi 58 0) && decide (g_lo 77 11 ≤ (M.2.1 77 11).toInt ∧ (M.2.1 77 11).toInt ≤ g_hi 77 11) && decide (g_lo 77 14 ≤ (M.2.1 77 14).toInt ∧ (M.2.1 77 14).toInt ≤ g_hi 77 14)) && (decide (M.2.1 77 13 = 0) && decide (M.2.1 77 29 = 0) && decide (M.2.1 77 58 = 0) && decide (M.2.1 77 57 = 0)) && ((List.range 6).all fun j => decide (M.2.1 100 j = 0)) && (decide (0 ≤ (M.2.1 77 28).toInt) && decide ((M.2.1 77 7).toInt ≤ (M.2.1 77 6).toInt) && decide ((M.2.1 1 1).toInt = (M.2.1 77 1).toInt))
noncomputable def fs_q (M : mm_M) : Bool := decide (M.2.2.2 0 8 = some 49) && decide (M.2.2.2 0 9 = some 58) && decide (M.2.2.2 0 10 = some 67) && decide (M.2.2.2 0 11 = some 72)
noncomputable def fs_k (M : mm_M) : Bool := Nat.ble M.1.2.1 126 && Nat.ble M.1.2.2.1 7628
theorem fs_tM : fs_t cr_M = true := by decide +kernel
theorem fs_cM : fs_c cr_M = true := by decide +kernel
theorem fs_qM : fs_q cr_M = true := by decide +kernel
theorem fs_kM : fs_k cr_M = true := by decide +kernel
theorem fs_rM : fs_r cr_M = true := by decide +kernel
theorem fs_G {M : mm_M} (hC : CK M) (ht : fs_t M = true) (hr : fs_r M = true) (hc : fs_c M = true) : g_G M := by
  unfold fs_t at ht
  unfold fs_c at hc
  simp only [Bool.and_eq_true, decide_eq_true_eq] at ht hc
  obtain ⟨⟨⟨⟨c0, ⟨⟨c1, c2⟩, c3⟩, c4⟩, -⟩, -⟩, -⟩ := hc
  refine ⟨⟨Nat.eq_of_beq_eq_true ht.1, fun a ha => ?_, fun a i v hv => ?_⟩, fun a i => ?_, c0⟩
  · have z := List.all_eq_true.mp ht.2 a (List.mem_range.mpr ha)
    rw [Bool.and_eq_true] at z
    exact ⟨Nat.eq_of_beq_eq_true z.1, Nat.eq_of_beq_eq_true z.2⟩
  · have ha : a < 126 := by
      by_cases g : a < 126
      · exact g
      · rw [g_rf_a (by omega)] at hv; cases hv
    by_cases hi : i < 81
    · have z := List.all_eq_true.mp (List.all_eq_true.mp hr a (List.mem_range.mpr ha)) i (List.mem_range.mpr hi)
      rw [hv] at z
      simp only [decide_eq_true_eq] at z
      exact z
    · exfalso
      have z : (List.range 126).all (fun a => (g_rf a 80).isNone) = true := by decide +kernel
      have z2 := List.all_eq_true.mp z a (List.mem_range.mpr ha)
      rw [g_rf_i (by omega)] at hv
      rw [hv] at z2
      cases z2
  · have z := hC a i
    unfold cw_o at z
    rw [Bool.or_eq_true, Bool.and_eq_true, Bool.and_eq_true, decide_eq_true_eq, decide_eq_true_eq, decide_eq_true_eq] at z
    rcases z with z | z
    · rcases bx_0 a i with y | y
      · unfold bx_c at y
        simp only [Bool.or_eq_true, Bool.and_eq_true] at y
        rcases y with ((y | y) | y) | y
        · rw [Nat.eq_of_beq_eq_true y.1, Nat.eq_of_beq_eq_true y.2]; exact c1
        · rw [Nat.eq_of_beq_eq_true y.1, Nat.eq_of_beq_eq_true y.2]; exact c2
        · rw [Nat.eq_of_beq_eq_true y.1, Nat.eq_of_beq_eq_true y.2]; exact c3
        · rw [Nat.eq_of_beq_eq_true y.1, Nat.eq_of_beq_eq_true y.2]; exact c4
      · rw [z]; exact y
    · exact ⟨z.1.2, z.2⟩
theorem fs_n {M : mm_M} (hC : CK M) {a : Nat} (h : cw_n a = true) (i : Nat) : (M.2.1 a i).toInt = 0 := by
  have z := hC a i
  unfold cw_o at z
  rw [Bool.or_eq_true, decide_eq_true_eq, h] at z
  rcases z with z | z
  · rw [z]; rfl
  · cases z
theorem fs_L {M : mm_M} (hC : CK M) (ht : fs_t M = true) (hr : fs_r M = true) (hc : fs_c M = true) (hq : fs_q M = true) : LI M := by
  have hG := fs_G hC ht hr hc
  unfold fs_c at hc
  unfold fs_q at hq
  simp only [Bool.and_eq_true, decide_eq_true_eq] at hc hq
  obtain ⟨⟨⟨⟨-, -⟩, ⟨⟨c1, c2⟩, c3⟩, c4⟩, c5⟩, ⟨c6, c7⟩, c8⟩ := hc
  obtain ⟨⟨⟨q1, q2⟩, q3⟩, q4⟩ := hq
  have n0 : (0 : Int32).toInt = 0 := rfl
  refine ⟨hG, ⟨fun i => ?_, fun i => ?_, fun i => ?_, ⟨49, 58, 67, 72, Or.inl rfl, Or.inr rfl, Or.inl rfl, Or.inr rfl, q1, q2, q3, q4⟩⟩, ⟨fun i => ?_, fun w _ hl => ?_, NJ_0 (by rw [c2]; rfl), PS_0 (fun j hj => ?_) c6, KQ_0 (by rw [c3]; rfl) (by rw [c4]; rfl)⟩, c7, c8⟩
  · rw [fs_n hC (a := 52) rfl, fs_n hC (a := 53) rfl, fs_n hC (a := 61) rfl, fs_n hC (a := 62) rfl]; omega
  · rw [fs_n hC (a := 7) rfl, fs_n hC (a := 8) rfl, fs_n hC (a := 9) rfl]; omega
  · rw [fs_n hC (a := 68) rfl, fs_n hC (a := 69) rfl, fs_n hC (a := 73) rfl, fs_n hC (a := 74) rfl]; omega
  · rw [fs_n hC (a := 81) rfl, fs_n hC (a := 82) rfl, fs_n hC (a := 83) rfl, fs_n hC (a := 84) rfl]; omega
  · rw [c1, n0] at hl; omega
  · have z := List.all_eq_true.mp c5 j (List.mem_range.mpr hj)
    rw [decide_eq_true_eq] at z
    exact z
theorem LI_M : LI cr_M := fs_L CK_M fs_tM fs_rM fs_cM fs_qM
theorem w9_c : ((List.range 70).all (fun i => decide (cr_M.2.1 79 i = x_w79.getD i 0)) && decide (cr_M.2.1 1 1 = 0)) = true := by decide +kernel
theorem LI3_M : LI3 cr_M := by
  have h := w9_c
  rw [Bool.and_eq_true, decide_eq_true_eq] at h
  refine ⟨LI_M, TP_0 (by rw [h.2]; decide), fun i hi => ?_⟩
  have z := List.all_eq_true.mp h.1 i (List.mem_range.mpr hi)
  rw [decide_eq_true_eq] at z
  rw [z]
  rfl
theorem ne_c : (decide (cr_M.2.2.2 0 8 ≠ cr_M.2.2.2 0 9) && decide (cr_M.2.1 0 12 = cr_M.2.1 77 28)) = true := by decide +kernel
theorem LI4_M : LI4 cr_M := by
  have h := ne_c
  rw [Bool.and_eq_true, decide_eq_true_eq, decide_eq_true_eq] at h
  exact ⟨LI3_M, h.1, by rw [h.2]⟩
theorem al_c : (decide (cr_M.2.2.2 0 8 = some 49) && decide ((cr_M.2.1 49 0).toInt = 10) && decide ((cr_M.2.1 49 2).toInt = 0) && decide ((cr_M.2.1 49 3).toInt = 0) && decide ((cr_M.2.1 77 11).toInt = 10) && decide ((cr_M.2.1 77 12).toInt = 0) && decide ((cr_M.2.1 77 13).toInt = 0) && decide (cr_M.2.1 17 4 = cr_M.2.1 77 41) && (List.range 10).all (fun j => decide (cr_M.2.1 88 j = fr_S.getD j 0 ∧ cr_M.2.1 89 j = fr_P.getD j 0))) = true := by decide +kernel
theorem AL_M : TPl cr_M x_s0 ∧ PLk2 cr_M x_s0 := by
  have h := al_c
  simp only [Bool.and_eq_true, decide_eq_true_eq] at h
  obtain ⟨⟨⟨⟨⟨⟨⟨⟨h1, h2⟩, h3⟩, h4⟩, h5⟩, h6⟩, h7⟩, h8⟩, h9⟩ := h
  refine ⟨⟨49, Or.inl rfl, h1, ⟨⟨x_G_0, h2, h3, h4, fun r k _ _ g => ?_, fun r k _ _ g => ?_⟩, CW_0⟩⟩, ⟨⟨x_G_0, h5, h6, h7, fun r k _ _ g => ?_, fun r k _ _ g => ?_⟩, CWk_0⟩⟩
  · have g : (k : Int) < 0 := g
    omega
  · have g : (k : Int) < 0 := g
    omega
  · have g : (k : Int) < 0 := g
    omega
  · have g : (k : Int) < 0 := g
    omega
theorem LI7_M : LI7 cr_M := by
  have h := al_c
  simp only [Bool.and_eq_true, decide_eq_true_eq] at h
  obtain ⟨⟨⟨⟨⟨⟨⟨⟨h1, h2⟩, h3⟩, h4⟩, h5⟩, h6⟩, h7⟩, h8⟩, h9⟩ := h
  refine ⟨⟨⟨LI4_M, ⟨x_s0, AL_M⟩⟩, by rw [h8]⟩, fun j hj => ?_⟩
  have z := List.all_eq_true.mp h9 j (List.mem_range.mpr hj)
  rw [decide_eq_true_eq] at z
  exact z
theorem nn_c : decide (cr_M.2.1 6 0 = cr_M.2.1 77 29) = true := by decide +kernel
theorem LI8_M : LI8 cr_M := ⟨LI7_M, by rw [of_decide_eq_true nn_c]⟩
theorem n0_c : decide ((cr_M.2.1 6 0).toInt = 0) = true := by decide +kernel
theorem LI9_M : LI9 cr_M := by
  have e := of_decide_eq_true n0_c
  refine ⟨LI8_M, x_s0, AL_M, ?_, ?_⟩
  · rw [e]; exact fun k hk => by omega
  · rw [e]; exact fun k hk => by omega
end
