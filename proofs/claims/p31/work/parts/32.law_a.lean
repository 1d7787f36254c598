theorem tg_493 {M M1 : mm_M} (F : FR (fun a i : Nat => a = 77 ∧ (i = 1 ∨ i = 2) ∨ a = 78) M M1) : ∀ a i : Nat, PI_r a → M1.2.1 a i = M.2.1 a i := fun a i z => F_n F (show ¬ (a = 77 ∧ (i = 1 ∨ i = 2) ∨ a = 78) by omega) rfl
theorem tg_494 {M M1 : mm_M} (F : FR (fun a i : Nat => a = 1 ∧ i = 1 ∨ a = 2) M M1) : ∀ a i : Nat, PI_r a → M1.2.1 a i = M.2.1 a i := fun a i z => F_n F (show ¬ (a = 1 ∧ i = 1 ∨ a = 2) by omega) rfl
theorem tg_495 {M M1 : mm_M} (F : FR (fun a i : Nat => a = 77 ∧ (i = 1 ∨ i = 2) ∨ a = 78) M M1) : ∀ a i : Nat, (7 ≤ a ∧ a ≤ 9) → M1.2.1 a i = M.2.1 a i := fun a i z => F_n F (show ¬ (a = 77 ∧ (i = 1 ∨ i = 2) ∨ a = 78) by omega) rfl
theorem tg_496 {M M1 : mm_M} (F : FR (fun a i : Nat => a = 1 ∧ i = 1 ∨ a = 2) M M1) : ∀ a i : Nat, (7 ≤ a ∧ a ≤ 9) → M1.2.1 a i = M.2.1 a i := fun a i z => F_n F (show ¬ (a = 1 ∧ i = 1 ∨ a = 2) by omega) rfl
theorem tg_497 {M M1 : mm_M} (F : FR (fun a i : Nat => a = 77 ∧ (i = 1 ∨ i = 2) ∨ a = 78) M M1) : ∀ a i : Nat, (a = 68 ∨ a = 69 ∨ a = 73 ∨ a = 74) → M1.2.1 a i = M.2.1 a i := fun a i z => F_n F (show ¬ (a = 77 ∧ (i = 1 ∨ i = 2) ∨ a = 78) by omega) rfl
theorem tg_498 {M M1 : mm_M} (F : FR (fun a i : Nat => a = 1 ∧ i = 1 ∨ a = 2) M M1) : ∀ a i : Nat, (a = 68 ∨ a = 69 ∨ a = 73 ∨ a = 74) → M1.2.1 a i = M.2.1 a i := fun a i z => F_n F (show ¬ (a = 1 ∧ i = 1 ∨ a = 2) by omega) rfl
theorem tg_499 {M M1 : mm_M} (F : FR (fun a i : Nat => a = 77 ∧ (i = 1 ∨ i = 2) ∨ a = 78) M M1) : ∀ a i : Nat, (81 ≤ a ∧ a ≤ 84) → M1.2.1 a i = M.2.1 a i := fun a i z => F_n F (show ¬ (a = 77 ∧ (i = 1 ∨ i = 2) ∨ a = 78) by omega) rfl
theorem tg_500 {M M1 : mm_M} (F : FR (fun a i : Nat => a = 1 ∧ i = 1 ∨ a = 2) M M1) : ∀ a i : Nat, (81 ≤ a ∧ a ≤ 84) → M1.2.1 a i = M.2.1 a i := fun a i z => F_n F (show ¬ (a = 1 ∧ i = 1 ∨ a = 2) by omega) rfl
theorem tg_501 {M M1 : mm_M} (F : FR (fun a i : Nat => a = 77 ∧ (i = 1 ∨ i = 2) ∨ a = 78) M M1) : ∀ a i : Nat, WC_r a i → M1.2.1 a i = M.2.1 a i := fun a i z => F_n F (show ¬ (a = 77 ∧ (i = 1 ∨ i = 2) ∨ a = 78) by omega) rfl
theorem tg_502 {M M1 : mm_M} (F : FR (fun a i : Nat => a = 1 ∧ i = 1 ∨ a = 2) M M1) : ∀ a i : Nat, WC_r a i → M1.2.1 a i = M.2.1 a i := fun a i z => F_n F (show ¬ (a = 1 ∧ i = 1 ∨ a = 2) by omega) rfl
theorem tg_503 {M M1 : mm_M} (F : FR (fun a i : Nat => a = 77 ∧ (i = 1 ∨ i = 2) ∨ a = 78) M M1) : ∀ a i : Nat, NJ_r a i → M1.2.1 a i = M.2.1 a i := fun a i z => F_n F (show ¬ (a = 77 ∧ (i = 1 ∨ i = 2) ∨ a = 78) by omega) rfl
theorem tg_504 {M M1 : mm_M} (F : FR (fun a i : Nat => a = 1 ∧ i = 1 ∨ a = 2) M M1) : ∀ a i : Nat, NJ_r a i → M1.2.1 a i = M.2.1 a i := fun a i z => F_n F (show ¬ (a = 1 ∧ i = 1 ∨ a = 2) by omega) rfl
theorem tg_505 {M M1 : mm_M} (F : FR (fun a i : Nat => a = 77 ∧ (i = 1 ∨ i = 2) ∨ a = 78) M M1) : ∀ a i : Nat, (a = 100 ∨ a = 77 ∧ i = 28) → M1.2.1 a i = M.2.1 a i := fun a i z => F_n F (show ¬ (a = 77 ∧ (i = 1 ∨ i = 2) ∨ a = 78) by omega) rfl
theorem tg_506 {M M1 : mm_M} (F : FR (fun a i : Nat => a = 1 ∧ i = 1 ∨ a = 2) M M1) : ∀ a i : Nat, (a = 100 ∨ a = 77 ∧ i = 28) → M1.2.1 a i = M.2.1 a i := fun a i z => F_n F (show ¬ (a = 1 ∧ i = 1 ∨ a = 2) by omega) rfl
theorem tg_507 {M M1 : mm_M} (F : FR (fun a i : Nat => a = 77 ∧ (i = 1 ∨ i = 2) ∨ a = 78) M M1) : ∀ a i : Nat, KQ_r a i → M1.2.1 a i = M.2.1 a i := fun a i z => F_n F (show ¬ (a = 77 ∧ (i = 1 ∨ i = 2) ∨ a = 78) by omega) rfl
theorem tg_508 {M M1 : mm_M} (F : FR (fun a i : Nat => a = 1 ∧ i = 1 ∨ a = 2) M M1) : ∀ a i : Nat, KQ_r a i → M1.2.1 a i = M.2.1 a i := fun a i z => F_n F (show ¬ (a = 1 ∧ i = 1 ∨ a = 2) by omega) rfl
theorem tg_509 {M M1 : mm_M} (F : FR (fun a i : Nat => a = 77 ∧ (i = 1 ∨ i = 2) ∨ a = 78) M M1) : ∀ a i : Nat, a = 79 → M1.2.1 a i = M.2.1 a i := fun a i z => F_n F (show ¬ (a = 77 ∧ (i = 1 ∨ i = 2) ∨ a = 78) by omega) rfl
theorem tg_510 {M M1 : mm_M} (F : FR (fun a i : Nat => a = 1 ∧ i = 1 ∨ a = 2) M M1) : ∀ a i : Nat, a = 79 → M1.2.1 a i = M.2.1 a i := fun a i z => F_n F (show ¬ (a = 1 ∧ i = 1 ∨ a = 2) by omega) rfl
theorem tg_511 {M M1 : mm_M} (F : FR (fun a i : Nat => a = 77 ∧ (i = 1 ∨ i = 2) ∨ a = 78) M M1) : ∀ a i : Nat, 88 ≤ a ∧ a ≤ 89 → M1.2.1 a i = M.2.1 a i := fun a i z => F_n F (show ¬ (a = 77 ∧ (i = 1 ∨ i = 2) ∨ a = 78) by omega) rfl
theorem tg_512 {M M1 : mm_M} (F : FR (fun a i : Nat => a = 1 ∧ i = 1 ∨ a = 2) M M1) : ∀ a i : Nat, 88 ≤ a ∧ a ≤ 89 → M1.2.1 a i = M.2.1 a i := fun a i z => F_n F (show ¬ (a = 1 ∧ i = 1 ∨ a = 2) by omega) rfl
theorem tg_513 {M M1 : mm_M} (F : FRX (fun a i : Nat => a ≤ 76 ∧ ¬ a = 2) M M1) : ∀ a i : Nat, (81 ≤ a ∧ a ≤ 84) → M1.2.1 a i = M.2.1 a i := fun a i z => Fx_n F (show ¬ (a ≤ 76 ∧ ¬ a = 2) by omega) rfl
theorem tg_514 {M M1 : mm_M} (F : FRX (fun a i : Nat => a ≤ 76 ∧ ¬ a = 2) M M1) : ∀ a i : Nat, WC_r a i → M1.2.1 a i = M.2.1 a i := fun a i z => Fx_n F (show ¬ (a ≤ 76 ∧ ¬ a = 2) by omega) rfl
theorem tg_515 {M M1 : mm_M} (F : FRX (fun a i : Nat => a ≤ 76 ∧ ¬ a = 2) M M1) : ∀ a i : Nat, NJ_r a i → M1.2.1 a i = M.2.1 a i := fun a i z => Fx_n F (show ¬ (a ≤ 76 ∧ ¬ a = 2) by omega) rfl
theorem tg_516 {M M1 : mm_M} (F : FRX (fun a i : Nat => a ≤ 76 ∧ ¬ a = 2) M M1) : ∀ a i : Nat, (a = 100 ∨ a = 77 ∧ i = 28) → M1.2.1 a i = M.2.1 a i := fun a i z => Fx_n F (show ¬ (a ≤ 76 ∧ ¬ a = 2) by omega) rfl
theorem tg_517 {M M1 : mm_M} (F : FRX (fun a i : Nat => a ≤ 76 ∧ ¬ a = 2) M M1) : ∀ a i : Nat, KQ_r a i → M1.2.1 a i = M.2.1 a i := fun a i z => Fx_n F (show ¬ (a ≤ 76 ∧ ¬ a = 2) by omega) rfl
theorem tg_518 {M M1 : mm_M} (F : FRX (fun a i : Nat => a ≤ 76 ∧ ¬ a = 2) M M1) : ∀ a i : Nat, a = 78 → M1.2.1 a i = M.2.1 a i := fun a i z => Fx_n F (show ¬ (a ≤ 76 ∧ ¬ a = 2) by omega) rfl
theorem tg_519 {M M1 : mm_M} (F : FRX (fun a i : Nat => a ≤ 76 ∧ ¬ a = 2) M M1) : ∀ a i : Nat, a = 79 → M1.2.1 a i = M.2.1 a i := fun a i z => Fx_n F (show ¬ (a ≤ 76 ∧ ¬ a = 2) by omega) rfl
theorem tg_520 {M M1 : mm_M} (F : FR (fun a i : Nat => a = 77 ∨ 79 < a ∧ a ≤ 87 ∨ a = 100) M M1) : ∀ a i : Nat, PI_r a → M1.2.1 a i = M.2.1 a i := fun a i z => F_n F (show ¬ (a = 77 ∨ 79 < a ∧ a ≤ 87 ∨ a = 100) by omega) rfl
theorem tg_521 {M M1 : mm_M} (F : FR (fun a i : Nat => a = 77 ∨ 79 < a ∧ a ≤ 87 ∨ a = 100) M M1) : ∀ a i : Nat, (7 ≤ a ∧ a ≤ 9) → M1.2.1 a i = M.2.1 a i := fun a i z => F_n F (show ¬ (a = 77 ∨ 79 < a ∧ a ≤ 87 ∨ a = 100) by omega) rfl
theorem tg_522 {M M1 : mm_M} (F : FR (fun a i : Nat => a = 77 ∨ 79 < a ∧ a ≤ 87 ∨ a = 100) M M1) : ∀ a i : Nat, (a = 68 ∨ a = 69 ∨ a = 73 ∨ a = 74) → M1.2.1 a i = M.2.1 a i := fun a i z => F_n F (show ¬ (a = 77 ∨ 79 < a ∧ a ≤ 87 ∨ a = 100) by omega) rfl
theorem tg_523 {M M1 : mm_M} (F : FR (fun a i : Nat => a = 77 ∨ 79 < a ∧ a ≤ 87 ∨ a = 100) M M1) : ∀ a i : Nat, (a = 1 ∧ i = 1 ∨ a = 2 ∨ a = 78) → M1.2.1 a i = M.2.1 a i := fun a i z => F_n F (show ¬ (a = 77 ∨ 79 < a ∧ a ≤ 87 ∨ a = 100) by omega) rfl
theorem tg_524 {M M1 : mm_M} (F : FR (fun a i : Nat => a = 77 ∨ 79 < a ∧ a ≤ 87 ∨ a = 100) M M1) : ∀ a i : Nat, a = 79 → M1.2.1 a i = M.2.1 a i := fun a i z => F_n F (show ¬ (a = 77 ∨ 79 < a ∧ a ≤ 87 ∨ a = 100) by omega) rfl
theorem tg_525 {M M1 : mm_M} (F : FR (fun a i : Nat => a = 77 ∨ 79 < a ∧ a ≤ 87 ∨ a = 100) M M1) : ∀ a i : Nat, 88 ≤ a ∧ a ≤ 89 → M1.2.1 a i = M.2.1 a i := fun a i z => F_n F (show ¬ (a = 77 ∨ 79 < a ∧ a ≤ 87 ∨ a = 100) by omega) rfl
theorem tg_526 {M M1 : mm_M} (F : FRX (fun a i : Nat => a ≤ 76 ∧ ¬ a = 2) M M1) : ∀ a i : Nat, 88 ≤ a ∧ a ≤ 89 → M1.2.1 a i = M.2.1 a i := fun a i z => Fx_n F (show ¬ (a ≤ 76 ∧ ¬ a = 2) by omega) rfl
theorem tg_527 {M M1 : mm_M} (F : FR (fun a i : Nat => a = 1 ∨ 3 ≤ a ∧ a ≤ 5 ∨ 11 ≤ a ∧ a ≤ 16 ∨ 18 ≤ a ∧ a ≤ 48) M M1) : ∀ a i : Nat, (81 ≤ a ∧ a ≤ 84) → M1.2.1 a i = M.2.1 a i := fun a i z => F_n F (show ¬ (a = 1 ∨ 3 ≤ a ∧ a ≤ 5 ∨ 11 ≤ a ∧ a ≤ 16 ∨ 18 ≤ a ∧ a ≤ 48) by omega) rfl
theorem tg_528 {M M1 : mm_M} (F : FR (fun a i : Nat => a = 1 ∨ 3 ≤ a ∧ a ≤ 5 ∨ 11 ≤ a ∧ a ≤ 16 ∨ 18 ≤ a ∧ a ≤ 48) M M1) : ∀ a i : Nat, WC_r a i → M1.2.1 a i = M.2.1 a i := fun a i z => F_n F (show ¬ (a = 1 ∨ 3 ≤ a ∧ a ≤ 5 ∨ 11 ≤ a ∧ a ≤ 16 ∨ 18 ≤ a ∧ a ≤ 48) by omega) rfl
theorem tg_529 {M M1 : mm_M} (F : FR (fun a i : Nat => a = 1 ∨ 3 ≤ a ∧ a ≤ 5 ∨ 11 ≤ a ∧ a ≤ 16 ∨ 18 ≤ a ∧ a ≤ 48) M M1) : ∀ a i : Nat, NJ_r a i → M1.2.1 a i = M.2.1 a i := fun a i z => F_n F (show ¬ (a = 1 ∨ 3 ≤ a ∧ a ≤ 5 ∨ 11 ≤ a ∧ a ≤ 16 ∨ 18 ≤ a ∧ a ≤ 48) by omega) rfl
theorem tg_530 {M M1 : mm_M} (F : FR (fun a i : Nat => a = 1 ∨ 3 ≤ a ∧ a ≤ 5 ∨ 11 ≤ a ∧ a ≤ 16 ∨ 18 ≤ a ∧ a ≤ 48) M M1) : ∀ a i : Nat, (a = 100 ∨ a = 77 ∧ i = 28) → M1.2.1 a i = M.2.1 a i := fun a i z => F_n F (show ¬ (a = 1 ∨ 3 ≤ a ∧ a ≤ 5 ∨ 11 ≤ a ∧ a ≤ 16 ∨ 18 ≤ a ∧ a ≤ 48) by omega) rfl
theorem tg_531 {M M1 : mm_M} (F : FR (fun a i : Nat => a = 1 ∨ 3 ≤ a ∧ a ≤ 5 ∨ 11 ≤ a ∧ a ≤ 16 ∨ 18 ≤ a ∧ a ≤ 48) M M1) : ∀ a i : Nat, KQ_r a i → M1.2.1 a i = M.2.1 a i := fun a i z => F_n F (show ¬ (a = 1 ∨ 3 ≤ a ∧ a ≤ 5 ∨ 11 ≤ a ∧ a ≤ 16 ∨ 18 ≤ a ∧ a ≤ 48) by omega) rfl
theorem tg_532 {M M1 : mm_M} (F : FR (fun a i : Nat => a = 1 ∨ 3 ≤ a ∧ a ≤ 5 ∨ 11 ≤ a ∧ a ≤ 16 ∨ 18 ≤ a ∧ a ≤ 48) M M1) : ∀ a i : Nat, a = 78 → M1.2.1 a i = M.2.1 a i := fun a i z => F_n F (show ¬ (a = 1 ∨ 3 ≤ a ∧ a ≤ 5 ∨ 11 ≤ a ∧ a ≤ 16 ∨ 18 ≤ a ∧ a ≤ 48) by omega) rfl
theorem tg_533 {M M1 : mm_M} (F : FR (fun a i : Nat => a = 1 ∨ 3 ≤ a ∧ a ≤ 5 ∨ 11 ≤ a ∧ a ≤ 16 ∨ 18 ≤ a ∧ a ≤ 48) M M1) : ∀ a i : Nat, a = 79 → M1.2.1 a i = M.2.1 a i := fun a i z => F_n F (show ¬ (a = 1 ∨ 3 ≤ a ∧ a ≤ 5 ∨ 11 ≤ a ∧ a ≤ 16 ∨ 18 ≤ a ∧ a ≤ 48) by omega) rfl
theorem tg_534 {M M1 : mm_M} (F : FR (fun a i : Nat => a = 1 ∨ 3 ≤ a ∧ a ≤ 5 ∨ 11 ≤ a ∧ a ≤ 16 ∨ 18 ≤ a ∧ a ≤ 48) M M1) : ∀ a i : Nat, (a = 77 ∧ 11 ≤ i ∧ i ≤ 13 ∨ 80 ≤ a ∧ a ≤ 84 ∧ i < 8 ∨ 85 ≤ a ∧ a ≤ 86 ∧ i < 12) → M1.2.1 a i = M.2.1 a i := fun a i z => F_n F (show ¬ (a = 1 ∨ 3 ≤ a ∧ a ≤ 5 ∨ 11 ≤ a ∧ a ≤ 16 ∨ 18 ≤ a ∧ a ≤ 48) by omega) rfl
theorem tg_535 {M M1 : mm_M} (F : FR (fun a i : Nat => a = 77 ∧ (1 ≤ i ∧ i ≤ 2 ∨ 4 ≤ i ∧ i ≤ 10 ∨ 42 ≤ i ∧ i ≤ 44 ∨ i = 52) ∨ 94 ≤ a ∧ a ≤ 111) M M1) : ∀ a i : Nat, PI_r a → M1.2.1 a i = M.2.1 a i := fun a i z => F_n F (show ¬ (a = 77 ∧ (1 ≤ i ∧ i ≤ 2 ∨ 4 ≤ i ∧ i ≤ 10 ∨ 42 ≤ i ∧ i ≤ 44 ∨ i = 52) ∨ 94 ≤ a ∧ a ≤ 111) by omega) rfl
theorem tg_536 {M M1 : mm_M} (F : FR (fun a i : Nat => a = 77 ∧ (1 ≤ i ∧ i ≤ 2 ∨ 4 ≤ i ∧ i ≤ 10 ∨ 42 ≤ i ∧ i ≤ 44 ∨ i = 52) ∨ 94 ≤ a ∧ a ≤ 111) M M1) : ∀ a i : Nat, (7 ≤ a ∧ a ≤ 9) → M1.2.1 a i = M.2.1 a i := fun a i z => F_n F (show ¬ (a = 77 ∧ (1 ≤ i ∧ i ≤ 2 ∨ 4 ≤ i ∧ i ≤ 10 ∨ 42 ≤ i ∧ i ≤ 44 ∨ i = 52) ∨ 94 ≤ a ∧ a ≤ 111) by omega) rfl
theorem tg_537 {M M1 : mm_M} (F : FR (fun a i : Nat => a = 77 ∧ (1 ≤ i ∧ i ≤ 2 ∨ 4 ≤ i ∧ i ≤ 10 ∨ 42 ≤ i ∧ i ≤ 44 ∨ i = 52) ∨ 94 ≤ a ∧ a ≤ 111) M M1) : ∀ a i : Nat, (a = 68 ∨ a = 69 ∨ a = 73 ∨ a = 74) → M1.2.1 a i = M.2.1 a i := fun a i z => F_n F (show ¬ (a = 77 ∧ (1 ≤ i ∧ i ≤ 2 ∨ 4 ≤ i ∧ i ≤ 10 ∨ 42 ≤ i ∧ i ≤ 44 ∨ i = 52) ∨ 94 ≤ a ∧ a ≤ 111) by omega) rfl
theorem tg_538 {M M1 : mm_M} (F : FR (fun a i : Nat => a = 77 ∧ (1 ≤ i ∧ i ≤ 2 ∨ 4 ≤ i ∧ i ≤ 10 ∨ 42 ≤ i ∧ i ≤ 44 ∨ i = 52) ∨ 94 ≤ a ∧ a ≤ 111) M M1) : ∀ a i : Nat, (a = 1 ∧ i = 1 ∨ a = 2 ∨ a = 78) → M1.2.1 a i = M.2.1 a i := fun a i z => F_n F (show ¬ (a = 77 ∧ (1 ≤ i ∧ i ≤ 2 ∨ 4 ≤ i ∧ i ≤ 10 ∨ 42 ≤ i ∧ i ≤ 44 ∨ i = 52) ∨ 94 ≤ a ∧ a ≤ 111) by omega) rfl
theorem tg_539 {M M1 : mm_M} (F : FR (fun a i : Nat => a = 77 ∧ (1 ≤ i ∧ i ≤ 2 ∨ 4 ≤ i ∧ i ≤ 10 ∨ 42 ≤ i ∧ i ≤ 44 ∨ i = 52) ∨ 94 ≤ a ∧ a ≤ 111) M M1) : ∀ a i : Nat, a = 79 → M1.2.1 a i = M.2.1 a i := fun a i z => F_n F (show ¬ (a = 77 ∧ (1 ≤ i ∧ i ≤ 2 ∨ 4 ≤ i ∧ i ≤ 10 ∨ 42 ≤ i ∧ i ≤ 44 ∨ i = 52) ∨ 94 ≤ a ∧ a ≤ 111) by omega) rfl
theorem tg_540 {M M1 : mm_M} (F : FR (fun a i : Nat => a = 77 ∧ (1 ≤ i ∧ i ≤ 2 ∨ 4 ≤ i ∧ i ≤ 10 ∨ 42 ≤ i ∧ i ≤ 44 ∨ i = 52) ∨ 94 ≤ a ∧ a ≤ 111) M M1) : ∀ a i : Nat, 88 ≤ a ∧ a ≤ 89 → M1.2.1 a i = M.2.1 a i := fun a i z => F_n F (show ¬ (a = 77 ∧ (1 ≤ i ∧ i ≤ 2 ∨ 4 ≤ i ∧ i ≤ 10 ∨ 42 ≤ i ∧ i ≤ 44 ∨ i = 52) ∨ 94 ≤ a ∧ a ≤ 111) by omega) rfl
theorem tg_541 {M M1 : mm_M} (F : FR (fun a i : Nat => a = 1 ∨ 3 ≤ a ∧ a ≤ 5 ∨ 11 ≤ a ∧ a ≤ 16 ∨ 18 ≤ a ∧ a ≤ 48) M M1) : ∀ a i : Nat, 88 ≤ a ∧ a ≤ 89 → M1.2.1 a i = M.2.1 a i := fun a i z => F_n F (show ¬ (a = 1 ∨ 3 ≤ a ∧ a ≤ 5 ∨ 11 ≤ a ∧ a ≤ 16 ∨ 18 ≤ a ∧ a ≤ 48) by omega) rfl
theorem tg_542 {M M1 : mm_M} (F : FRX (fun a i : Nat => a = 1 ∨ 3 ≤ a ∧ a ≤ 5 ∨ 67 ≤ a ∧ a ≤ 76) M M1) : ∀ a i : Nat, (81 ≤ a ∧ a ≤ 84) → M1.2.1 a i = M.2.1 a i := fun a i z => Fx_n F (show ¬ (a = 1 ∨ 3 ≤ a ∧ a ≤ 5 ∨ 67 ≤ a ∧ a ≤ 76) by omega) rfl
theorem tg_543 {M M1 : mm_M} (F : FRX (fun a i : Nat => a = 1 ∨ 3 ≤ a ∧ a ≤ 5 ∨ 67 ≤ a ∧ a ≤ 76) M M1) : ∀ a i : Nat, WC_r a i → M1.2.1 a i = M.2.1 a i := fun a i z => Fx_n F (show ¬ (a = 1 ∨ 3 ≤ a ∧ a ≤ 5 ∨ 67 ≤ a ∧ a ≤ 76) by omega) rfl
theorem tg_544 {M M1 : mm_M} (F : FRX (fun a i : Nat => a = 1 ∨ 3 ≤ a ∧ a ≤ 5 ∨ 67 ≤ a ∧ a ≤ 76) M M1) : ∀ a i : Nat, NJ_r a i → M1.2.1 a i = M.2.1 a i := fun a i z => Fx_n F (show ¬ (a = 1 ∨ 3 ≤ a ∧ a ≤ 5 ∨ 67 ≤ a ∧ a ≤ 76) by omega) rfl
theorem tg_545 {M M1 : mm_M} (F : FRX (fun a i : Nat => a = 1 ∨ 3 ≤ a ∧ a ≤ 5 ∨ 67 ≤ a ∧ a ≤ 76) M M1) : ∀ a i : Nat, (a = 100 ∨ a = 77 ∧ i = 28) → M1.2.1 a i = M.2.1 a i := fun a i z => Fx_n F (show ¬ (a = 1 ∨ 3 ≤ a ∧ a ≤ 5 ∨ 67 ≤ a ∧ a ≤ 76) by omega) rfl
theorem tg_546 {M M1 : mm_M} (F : FRX (fun a i : Nat => a = 1 ∨ 3 ≤ a ∧ a ≤ 5 ∨ 67 ≤ a ∧ a ≤ 76) M M1) : ∀ a i : Nat, KQ_r a i → M1.2.1 a i = M.2.1 a i := fun a i z => Fx_n F (show ¬ (a = 1 ∨ 3 ≤ a ∧ a ≤ 5 ∨ 67 ≤ a ∧ a ≤ 76) by omega) rfl
theorem tg_547 {M M1 : mm_M} (F : FRX (fun a i : Nat => a = 1 ∨ 3 ≤ a ∧ a ≤ 5 ∨ 67 ≤ a ∧ a ≤ 76) M M1) : ∀ a i : Nat, a = 78 → M1.2.1 a i = M.2.1 a i := fun a i z => Fx_n F (show ¬ (a = 1 ∨ 3 ≤ a ∧ a ≤ 5 ∨ 67 ≤ a ∧ a ≤ 76) by omega) rfl
theorem tg_548 {M M1 : mm_M} (F : FRX (fun a i : Nat => a = 1 ∨ 3 ≤ a ∧ a ≤ 5 ∨ 67 ≤ a ∧ a ≤ 76) M M1) : ∀ a i : Nat, a = 79 → M1.2.1 a i = M.2.1 a i := fun a i z => Fx_n F (show ¬ (a = 1 ∨ 3 ≤ a ∧ a ≤ 5 ∨ 67 ≤ a ∧ a ≤ 76) by omega) rfl
theorem tg_549 {M M1 : mm_M} (F : FRX (fun a i : Nat => a = 1 ∨ 3 ≤ a ∧ a ≤ 5 ∨ 67 ≤ a ∧ a ≤ 76) M M1) : ∀ a i : Nat, (a = 77 ∧ 11 ≤ i ∧ i ≤ 13 ∨ 80 ≤ a ∧ a ≤ 84 ∧ i < 8 ∨ 85 ≤ a ∧ a ≤ 86 ∧ i < 12) → M1.2.1 a i = M.2.1 a i := fun a i z => Fx_n F (show ¬ (a = 1 ∨ 3 ≤ a ∧ a ≤ 5 ∨ 67 ≤ a ∧ a ≤ 76) by omega) rfl
theorem tg_550 {M M1 : mm_M} (F : FR (fun a i : Nat => a = 77 ∧ (1 ≤ i ∧ i ≤ 2 ∨ 4 ≤ i ∧ i ≤ 10 ∨ 57 ≤ i ∧ i ≤ 59 ∨ 65 ≤ i ∧ i ≤ 69) ∨ 112 ≤ a ∧ a ≤ 116) M M1) : ∀ a i : Nat, PI_r a → M1.2.1 a i = M.2.1 a i := fun a i z => F_n F (show ¬ (a = 77 ∧ (1 ≤ i ∧ i ≤ 2 ∨ 4 ≤ i ∧ i ≤ 10 ∨ 57 ≤ i ∧ i ≤ 59 ∨ 65 ≤ i ∧ i ≤ 69) ∨ 112 ≤ a ∧ a ≤ 116) by omega) rfl
theorem tg_551 {M M1 : mm_M} (F : FR (fun a i : Nat => a = 77 ∧ (1 ≤ i ∧ i ≤ 2 ∨ 4 ≤ i ∧ i ≤ 10 ∨ 57 ≤ i ∧ i ≤ 59 ∨ 65 ≤ i ∧ i ≤ 69) ∨ 112 ≤ a ∧ a ≤ 116) M M1) : ∀ a i : Nat, (7 ≤ a ∧ a ≤ 9) → M1.2.1 a i = M.2.1 a i := fun a i z => F_n F (show ¬ (a = 77 ∧ (1 ≤ i ∧ i ≤ 2 ∨ 4 ≤ i ∧ i ≤ 10 ∨ 57 ≤ i ∧ i ≤ 59 ∨ 65 ≤ i ∧ i ≤ 69) ∨ 112 ≤ a ∧ a ≤ 116) by omega) rfl
theorem tg_552 {M M1 : mm_M} (F : FR (fun a i : Nat => a = 77 ∧ (1 ≤ i ∧ i ≤ 2 ∨ 4 ≤ i ∧ i ≤ 10 ∨ 57 ≤ i ∧ i ≤ 59 ∨ 65 ≤ i ∧ i ≤ 69) ∨ 112 ≤ a ∧ a ≤ 116) M M1) : ∀ a i : Nat, (a = 68 ∨ a = 69 ∨ a = 73 ∨ a = 74) → M1.2.1 a i = M.2.1 a i := fun a i z => F_n F (show ¬ (a = 77 ∧ (1 ≤ i ∧ i ≤ 2 ∨ 4 ≤ i ∧ i ≤ 10 ∨ 57 ≤ i ∧ i ≤ 59 ∨ 65 ≤ i ∧ i ≤ 69) ∨ 112 ≤ a ∧ a ≤ 116) by omega) rfl
theorem tg_553 {M M1 : mm_M} (F : FR (fun a i : Nat => a = 77 ∧ (1 ≤ i ∧ i ≤ 2 ∨ 4 ≤ i ∧ i ≤ 10 ∨ 57 ≤ i ∧ i ≤ 59 ∨ 65 ≤ i ∧ i ≤ 69) ∨ 112 ≤ a ∧ a ≤ 116) M M1) : ∀ a i : Nat, (a = 1 ∧ i = 1 ∨ a = 2 ∨ a = 78) → M1.2.1 a i = M.2.1 a i := fun a i z => F_n F (show ¬ (a = 77 ∧ (1 ≤ i ∧ i ≤ 2 ∨ 4 ≤ i ∧ i ≤ 10 ∨ 57 ≤ i ∧ i ≤ 59 ∨ 65 ≤ i ∧ i ≤ 69) ∨ 112 ≤ a ∧ a ≤ 116) by omega) rfl
theorem tg_554 {M M1 : mm_M} (F : FR (fun a i : Nat => a = 77 ∧ (1 ≤ i ∧ i ≤ 2 ∨ 4 ≤ i ∧ i ≤ 10 ∨ 57 ≤ i ∧ i ≤ 59 ∨ 65 ≤ i ∧ i ≤ 69) ∨ 112 ≤ a ∧ a ≤ 116) M M1) : ∀ a i : Nat, a = 79 → M1.2.1 a i = M.2.1 a i := fun a i z => F_n F (show ¬ (a = 77 ∧ (1 ≤ i ∧ i ≤ 2 ∨ 4 ≤ i ∧ i ≤ 10 ∨ 57 ≤ i ∧ i ≤ 59 ∨ 65 ≤ i ∧ i ≤ 69) ∨ 112 ≤ a ∧ a ≤ 116) by omega) rfl
theorem tg_555 {M M1 : mm_M} (F : FR (fun a i : Nat => a = 77 ∧ (1 ≤ i ∧ i ≤ 2 ∨ 4 ≤ i ∧ i ≤ 10 ∨ 57 ≤ i ∧ i ≤ 59 ∨ 65 ≤ i ∧ i ≤ 69) ∨ 112 ≤ a ∧ a ≤ 116) M M1) : ∀ a i : Nat, 88 ≤ a ∧ a ≤ 89 → M1.2.1 a i = M.2.1 a i := fun a i z => F_n F (show ¬ (a = 77 ∧ (1 ≤ i ∧ i ≤ 2 ∨ 4 ≤ i ∧ i ≤ 10 ∨ 57 ≤ i ∧ i ≤ 59 ∨ 65 ≤ i ∧ i ≤ 69) ∨ 112 ≤ a ∧ a ≤ 116) by omega) rfl
theorem tg_556 {M M1 : mm_M} (F : FRX (fun a i : Nat => a = 1 ∨ 3 ≤ a ∧ a ≤ 5 ∨ 67 ≤ a ∧ a ≤ 76) M M1) : ∀ a i : Nat, 88 ≤ a ∧ a ≤ 89 → M1.2.1 a i = M.2.1 a i := fun a i z => Fx_n F (show ¬ (a = 1 ∨ 3 ≤ a ∧ a ≤ 5 ∨ 67 ≤ a ∧ a ≤ 76) by omega) rfl
theorem tg_557 {M M1 : mm_M} (F : FR (fun a i : Nat => a = 77 ∧ i = 2) M M1) : ∀ a i : Nat, PI_r a → M1.2.1 a i = M.2.1 a i := fun a i z => F_n F (show ¬ (a = 77 ∧ i = 2) by omega) rfl
theorem tg_558 {M M1 : mm_M} (F : FR (fun a i : Nat => a = 77 ∧ i = 2) M M1) : ∀ a i : Nat, (7 ≤ a ∧ a ≤ 9) → M1.2.1 a i = M.2.1 a i := fun a i z => F_n F (show ¬ (a = 77 ∧ i = 2) by omega) rfl
theorem tg_559 {M M1 : mm_M} (F : FR (fun a i : Nat => a = 77 ∧ i = 2) M M1) : ∀ a i : Nat, (a = 68 ∨ a = 69 ∨ a = 73 ∨ a = 74) → M1.2.1 a i = M.2.1 a i := fun a i z => F_n F (show ¬ (a = 77 ∧ i = 2) by omega) rfl
theorem tg_560 {M M1 : mm_M} (F : FR (fun a i : Nat => a = 77 ∧ i = 2) M M1) : ∀ a i : Nat, (81 ≤ a ∧ a ≤ 84) → M1.2.1 a i = M.2.1 a i := fun a i z => F_n F (show ¬ (a = 77 ∧ i = 2) by omega) rfl
theorem tg_561 {M M1 : mm_M} (F : FR (fun a i : Nat => a = 77 ∧ i = 2) M M1) : ∀ a i : Nat, WC_r a i → M1.2.1 a i = M.2.1 a i := fun a i z => F_n F (show ¬ (a = 77 ∧ i = 2) by omega) rfl
theorem tg_562 {M M1 : mm_M} (F : FR (fun a i : Nat => a < 0) M M1) : ∀ a i : Nat, WC_r a i → M1.2.1 a i = M.2.1 a i := fun a i z => F_n F (show ¬ (a < 0) by omega) rfl
theorem tg_563 {M M1 : mm_M} (F : FR (fun a i : Nat => a = 77 ∧ i = 2) M M1) : ∀ a i : Nat, NJ_r a i → M1.2.1 a i = M.2.1 a i := fun a i z => F_n F (show ¬ (a = 77 ∧ i = 2) by omega) rfl
theorem tg_564 {M M1 : mm_M} (F : FR (fun a i : Nat => a = 77 ∧ i = 2) M M1) : ∀ a i : Nat, (a = 100 ∨ a = 77 ∧ i = 28) → M1.2.1 a i = M.2.1 a i := fun a i z => F_n F (show ¬ (a = 77 ∧ i = 2) by omega) rfl
theorem tg_565 {M M1 : mm_M} (F : FR (fun a i : Nat => a < 0) M M1) : ∀ a i : Nat, (a = 100 ∨ a = 77 ∧ i = 28) → M1.2.1 a i = M.2.1 a i := fun a i z => F_n F (show ¬ (a < 0) by omega) rfl
theorem tg_566 {M M1 : mm_M} (F : FR (fun a i : Nat => a = 77 ∧ i = 2) M M1) : ∀ a i : Nat, KQ_r a i → M1.2.1 a i = M.2.1 a i := fun a i z => F_n F (show ¬ (a = 77 ∧ i = 2) by omega) rfl
theorem tg_567 {M M1 : mm_M} (F : FR (fun a i : Nat => a = 77 ∧ i = 2) M M1) : ∀ a i : Nat, (a = 1 ∧ i = 1 ∨ a = 2 ∨ a = 78) → M1.2.1 a i = M.2.1 a i := fun a i z => F_n F (show ¬ (a = 77 ∧ i = 2) by omega) rfl
theorem tg_568 {M M1 : mm_M} (F : FR (fun a i : Nat => a < 0) M M1) : ∀ a i : Nat, (a = 1 ∧ i = 1 ∨ a = 2 ∨ a = 78) → M1.2.1 a i = M.2.1 a i := fun a i z => F_n F (show ¬ (a < 0) by omega) rfl
theorem tg_569 {M M1 : mm_M} (F : FR (fun a i : Nat => a = 77 ∧ i = 2) M M1) : ∀ a i : Nat, a = 79 → M1.2.1 a i = M.2.1 a i := fun a i z => F_n F (show ¬ (a = 77 ∧ i = 2) by omega) rfl
theorem tg_570 {M M1 : mm_M} (F : FR (fun a i : Nat => a = 77 ∧ i = 2) M M1) : ∀ a i : Nat, 88 ≤ a ∧ a ≤ 89 → M1.2.1 a i = M.2.1 a i := fun a i z => F_n F (show ¬ (a = 77 ∧ i = 2) by omega) rfl
theorem tg_571 {M M1 : mm_M} (F : FR (fun a i : Nat => a < 0) M M1) : ∀ a i : Nat, 88 ≤ a ∧ a ≤ 89 → M1.2.1 a i = M.2.1 a i := fun a i z => F_n F (show ¬ (a < 0) by omega) rfl
theorem tg_572 {M M1 : mm_M} (F : FR (fun a i : Nat => 11 ≤ a ∧ a ≤ 16 ∨ 18 ≤ a ∧ a ≤ 27 ∨ 36 ≤ a ∧ a ≤ 48) M M1) : ∀ a i : Nat, NJ_r a i → M1.2.1 a i = M.2.1 a i := fun a i z => F_n F (show ¬ (11 ≤ a ∧ a ≤ 16 ∨ 18 ≤ a ∧ a ≤ 27 ∨ 36 ≤ a ∧ a ≤ 48) by omega) rfl
theorem tg_573 {M M1 : mm_M} (F : FR (fun a i : Nat => a = 77 ∧ i = 2 ∨ 94 ≤ a ∧ a ≤ 98) M M1) : ∀ a i : Nat, PI_r a → M1.2.1 a i = M.2.1 a i := fun a i z => F_n F (show ¬ (a = 77 ∧ i = 2 ∨ 94 ≤ a ∧ a ≤ 98) by omega) rfl
theorem tg_574 {M M1 : mm_M} (F : FR (fun a i : Nat => a = 77 ∧ i = 2 ∨ 94 ≤ a ∧ a ≤ 98) M M1) : ∀ a i : Nat, (7 ≤ a ∧ a ≤ 9) → M1.2.1 a i = M.2.1 a i := fun a i z => F_n F (show ¬ (a = 77 ∧ i = 2 ∨ 94 ≤ a ∧ a ≤ 98) by omega) rfl
theorem tg_575 {M M1 : mm_M} (F : FR (fun a i : Nat => a = 77 ∧ i = 2 ∨ 94 ≤ a ∧ a ≤ 98) M M1) : ∀ a i : Nat, (a = 68 ∨ a = 69 ∨ a = 73 ∨ a = 74) → M1.2.1 a i = M.2.1 a i := fun a i z => F_n F (show ¬ (a = 77 ∧ i = 2 ∨ 94 ≤ a ∧ a ≤ 98) by omega) rfl
theorem tg_576 {M M1 : mm_M} (F : FR (fun a i : Nat => a = 77 ∧ i = 2 ∨ 94 ≤ a ∧ a ≤ 98) M M1) : ∀ a i : Nat, (81 ≤ a ∧ a ≤ 84) → M1.2.1 a i = M.2.1 a i := fun a i z => F_n F (show ¬ (a = 77 ∧ i = 2 ∨ 94 ≤ a ∧ a ≤ 98) by omega) rfl
theorem tg_577 {M M1 : mm_M} (F : FR (fun a i : Nat => 11 ≤ a ∧ a ≤ 16 ∨ 18 ≤ a ∧ a ≤ 27 ∨ 36 ≤ a ∧ a ≤ 48) M M1) : ∀ a i : Nat, (81 ≤ a ∧ a ≤ 84) → M1.2.1 a i = M.2.1 a i := fun a i z => F_n F (show ¬ (11 ≤ a ∧ a ≤ 16 ∨ 18 ≤ a ∧ a ≤ 27 ∨ 36 ≤ a ∧ a ≤ 48) by omega) rfl
theorem tg_578 {M M1 : mm_M} (F : FR (fun a i : Nat => a = 77 ∧ i = 2 ∨ 94 ≤ a ∧ a ≤ 98) M M1) : ∀ a i : Nat, WC_r a i → M1.2.1 a i = M.2.1 a i := fun a i z => F_n F (show ¬ (a = 77 ∧ i = 2 ∨ 94 ≤ a ∧ a ≤ 98) by omega) rfl
theorem tg_579 {M M1 : mm_M} (F : FR (fun a i : Nat => 11 ≤ a ∧ a ≤ 16 ∨ 18 ≤ a ∧ a ≤ 27 ∨ 36 ≤ a ∧ a ≤ 48) M M1) : ∀ a i : Nat, WC_r a i → M1.2.1 a i = M.2.1 a i := fun a i z => F_n F (show ¬ (11 ≤ a ∧ a ≤ 16 ∨ 18 ≤ a ∧ a ≤ 27 ∨ 36 ≤ a ∧ a ≤ 48) by omega) rfl
theorem tg_580 {M M1 : mm_M} (F : FR (fun a i : Nat => a = 77 ∧ i = 2 ∨ 94 ≤ a ∧ a ≤ 98) M M1) : ∀ a i : Nat, NJ_r a i → M1.2.1 a i = M.2.1 a i := fun a i z => F_n F (show ¬ (a = 77 ∧ i = 2 ∨ 94 ≤ a ∧ a ≤ 98) by omega) rfl
theorem tg_581 {M M1 : mm_M} (F : FR (fun a i : Nat => a = 77 ∧ i = 2 ∨ 94 ≤ a ∧ a ≤ 98) M M1) : ∀ a i : Nat, (a = 100 ∨ a = 77 ∧ i = 28) → M1.2.1 a i = M.2.1 a i := fun a i z => F_n F (show ¬ (a = 77 ∧ i = 2 ∨ 94 ≤ a ∧ a ≤ 98) by omega) rfl
theorem tg_582 {M M1 : mm_M} (F : FR (fun a i : Nat => 11 ≤ a ∧ a ≤ 16 ∨ 18 ≤ a ∧ a ≤ 27 ∨ 36 ≤ a ∧ a ≤ 48) M M1) : ∀ a i : Nat, (a = 100 ∨ a = 77 ∧ i = 28) → M1.2.1 a i = M.2.1 a i := fun a i z => F_n F (show ¬ (11 ≤ a ∧ a ≤ 16 ∨ 18 ≤ a ∧ a ≤ 27 ∨ 36 ≤ a ∧ a ≤ 48) by omega) rfl
theorem tg_583 {M M1 : mm_M} (F : FR (fun a i : Nat => a = 77 ∧ i = 2 ∨ 94 ≤ a ∧ a ≤ 98) M M1) : ∀ a i : Nat, KQ_r a i → M1.2.1 a i = M.2.1 a i := fun a i z => F_n F (show ¬ (a = 77 ∧ i = 2 ∨ 94 ≤ a ∧ a ≤ 98) by omega) rfl
theorem tg_584 {M M1 : mm_M} (F : FR (fun a i : Nat => 11 ≤ a ∧ a ≤ 16 ∨ 18 ≤ a ∧ a ≤ 27 ∨ 36 ≤ a ∧ a ≤ 48) M M1) : ∀ a i : Nat, KQ_r a i → M1.2.1 a i = M.2.1 a i := fun a i z => F_n F (show ¬ (11 ≤ a ∧ a ≤ 16 ∨ 18 ≤ a ∧ a ≤ 27 ∨ 36 ≤ a ∧ a ≤ 48) by omega) rfl
theorem tg_585 {M M1 : mm_M} (F : FR (fun a i : Nat => a = 77 ∧ i = 2 ∨ 94 ≤ a ∧ a ≤ 98) M M1) : ∀ a i : Nat, (a = 1 ∧ i = 1 ∨ a = 2 ∨ a = 78) → M1.2.1 a i = M.2.1 a i := fun a i z => F_n F (show ¬ (a = 77 ∧ i = 2 ∨ 94 ≤ a ∧ a ≤ 98) by omega) rfl
theorem tg_586 {M M1 : mm_M} (F : FR (fun a i : Nat => 11 ≤ a ∧ a ≤ 16 ∨ 18 ≤ a ∧ a ≤ 27 ∨ 36 ≤ a ∧ a ≤ 48) M M1) : ∀ a i : Nat, (a = 1 ∧ i = 1 ∨ a = 2 ∨ a = 78) → M1.2.1 a i = M.2.1 a i := fun a i z => F_n F (show ¬ (11 ≤ a ∧ a ≤ 16 ∨ 18 ≤ a ∧ a ≤ 27 ∨ 36 ≤ a ∧ a ≤ 48) by omega) rfl
theorem tg_587 {M M1 : mm_M} (F : FR (fun a i : Nat => a = 77 ∧ i = 2 ∨ 94 ≤ a ∧ a ≤ 98) M M1) : ∀ a i : Nat, a = 79 → M1.2.1 a i = M.2.1 a i := fun a i z => F_n F (show ¬ (a = 77 ∧ i = 2 ∨ 94 ≤ a ∧ a ≤ 98) by omega) rfl
theorem tg_588 {M M1 : mm_M} (F : FR (fun a i : Nat => 11 ≤ a ∧ a ≤ 16 ∨ 18 ≤ a ∧ a ≤ 27 ∨ 36 ≤ a ∧ a ≤ 48) M M1) : ∀ a i : Nat, a = 79 → M1.2.1 a i = M.2.1 a i := fun a i z => F_n F (show ¬ (11 ≤ a ∧ a ≤ 16 ∨ 18 ≤ a ∧ a ≤ 27 ∨ 36 ≤ a ∧ a ≤ 48) by omega) rfl
theorem tg_589 {M M1 : mm_M} (F : FR (fun a i : Nat => a = 77 ∧ i = 2 ∨ 94 ≤ a ∧ a ≤ 98) M M1) : ∀ a i : Nat, 88 ≤ a ∧ a ≤ 89 → M1.2.1 a i = M.2.1 a i := fun a i z => F_n F (show ¬ (a = 77 ∧ i = 2 ∨ 94 ≤ a ∧ a ≤ 98) by omega) rfl
theorem tg_590 {M M1 : mm_M} (F : FR (fun a i : Nat => 11 ≤ a ∧ a ≤ 16 ∨ 18 ≤ a ∧ a ≤ 27 ∨ 36 ≤ a ∧ a ≤ 48) M M1) : ∀ a i : Nat, 88 ≤ a ∧ a ≤ 89 → M1.2.1 a i = M.2.1 a i := fun a i z => F_n F (show ¬ (11 ≤ a ∧ a ≤ 16 ∨ 18 ≤ a ∧ a ≤ 27 ∨ 36 ≤ a ∧ a ≤ 48) by omega) rfl
theorem tg_591 {M M1 : mm_M} (F : FR (fun a i : Nat => a = 0 ∧ i = 12 ∨ 18 ≤ a ∧ a ≤ 27) M M1) : ∀ a i : Nat, (a = 100 ∨ a = 77 ∧ i = 28) → M1.2.1 a i = M.2.1 a i := fun a i z => F_n F (show ¬ (a = 0 ∧ i = 12 ∨ 18 ≤ a ∧ a ≤ 27) by omega) rfl
theorem tg_592 {M M1 : mm_M} (F : FR (fun a i : Nat => a = 77 ∧ (i = 2 ∨ i = 28) ∨ a = 99 ∨ a = 100) M M1) : ∀ a i : Nat, PI_r a → M1.2.1 a i = M.2.1 a i := fun a i z => F_n F (show ¬ (a = 77 ∧ (i = 2 ∨ i = 28) ∨ a = 99 ∨ a = 100) by omega) rfl
theorem tg_593 {M M1 : mm_M} (F : FR (fun a i : Nat => a = 77 ∧ (i = 2 ∨ i = 28) ∨ a = 99 ∨ a = 100) M M1) : ∀ a i : Nat, (7 ≤ a ∧ a ≤ 9) → M1.2.1 a i = M.2.1 a i := fun a i z => F_n F (show ¬ (a = 77 ∧ (i = 2 ∨ i = 28) ∨ a = 99 ∨ a = 100) by omega) rfl
theorem tg_594 {M M1 : mm_M} (F : FR (fun a i : Nat => a = 77 ∧ (i = 2 ∨ i = 28) ∨ a = 99 ∨ a = 100) M M1) : ∀ a i : Nat, (a = 68 ∨ a = 69 ∨ a = 73 ∨ a = 74) → M1.2.1 a i = M.2.1 a i := fun a i z => F_n F (show ¬ (a = 77 ∧ (i = 2 ∨ i = 28) ∨ a = 99 ∨ a = 100) by omega) rfl
theorem tg_595 {M M1 : mm_M} (F : FR (fun a i : Nat => a = 77 ∧ (i = 2 ∨ i = 28) ∨ a = 99 ∨ a = 100) M M1) : ∀ a i : Nat, (81 ≤ a ∧ a ≤ 84) → M1.2.1 a i = M.2.1 a i := fun a i z => F_n F (show ¬ (a = 77 ∧ (i = 2 ∨ i = 28) ∨ a = 99 ∨ a = 100) by omega) rfl
theorem tg_596 {M M1 : mm_M} (F : FR (fun a i : Nat => a = 0 ∧ i = 12 ∨ 18 ≤ a ∧ a ≤ 27) M M1) : ∀ a i : Nat, (81 ≤ a ∧ a ≤ 84) → M1.2.1 a i = M.2.1 a i := fun a i z => F_n F (show ¬ (a = 0 ∧ i = 12 ∨ 18 ≤ a ∧ a ≤ 27) by omega) rfl
theorem tg_597 {M M1 : mm_M} (F : FR (fun a i : Nat => a = 77 ∧ (i = 2 ∨ i = 28) ∨ a = 99 ∨ a = 100) M M1) : ∀ a i : Nat, WC_r a i → M1.2.1 a i = M.2.1 a i := fun a i z => F_n F (show ¬ (a = 77 ∧ (i = 2 ∨ i = 28) ∨ a = 99 ∨ a = 100) by omega) rfl
theorem tg_598 {M M1 : mm_M} (F : FR (fun a i : Nat => a = 0 ∧ i = 12 ∨ 18 ≤ a ∧ a ≤ 27) M M1) : ∀ a i : Nat, WC_r a i → M1.2.1 a i = M.2.1 a i := fun a i z => F_n F (show ¬ (a = 0 ∧ i = 12 ∨ 18 ≤ a ∧ a ≤ 27) by omega) rfl
theorem tg_599 {M M1 : mm_M} (F : FR (fun a i : Nat => a = 77 ∧ (i = 2 ∨ i = 28) ∨ a = 99 ∨ a = 100) M M1) : ∀ a i : Nat, NJ_r a i → M1.2.1 a i = M.2.1 a i := fun a i z => F_n F (show ¬ (a = 77 ∧ (i = 2 ∨ i = 28) ∨ a = 99 ∨ a = 100) by omega) rfl
theorem tg_600 {M M1 : mm_M} (F : FR (fun a i : Nat => a = 0 ∧ i = 12 ∨ 18 ≤ a ∧ a ≤ 27) M M1) : ∀ a i : Nat, NJ_r a i → M1.2.1 a i = M.2.1 a i := fun a i z => F_n F (show ¬ (a = 0 ∧ i = 12 ∨ 18 ≤ a ∧ a ≤ 27) by omega) rfl
theorem tg_601 {M M1 : mm_M} (F : FR (fun a i : Nat => a = 77 ∧ (i = 2 ∨ i = 28) ∨ a = 99 ∨ a = 100) M M1) : ∀ a i : Nat, KQ_r a i → M1.2.1 a i = M.2.1 a i := fun a i z => F_n F (show ¬ (a = 77 ∧ (i = 2 ∨ i = 28) ∨ a = 99 ∨ a = 100) by omega) rfl
theorem tg_602 {M M1 : mm_M} (F : FR (fun a i : Nat => a = 0 ∧ i = 12 ∨ 18 ≤ a ∧ a ≤ 27) M M1) : ∀ a i : Nat, KQ_r a i → M1.2.1 a i = M.2.1 a i := fun a i z => F_n F (show ¬ (a = 0 ∧ i = 12 ∨ 18 ≤ a ∧ a ≤ 27) by omega) rfl
theorem tg_603 {M M1 : mm_M} (F : FR (fun a i : Nat => a = 77 ∧ (i = 2 ∨ i = 28) ∨ a = 99 ∨ a = 100) M M1) : ∀ a i : Nat, (a = 1 ∧ i = 1 ∨ a = 2 ∨ a = 78) → M1.2.1 a i = M.2.1 a i := fun a i z => F_n F (show ¬ (a = 77 ∧ (i = 2 ∨ i = 28) ∨ a = 99 ∨ a = 100) by omega) rfl
theorem tg_604 {M M1 : mm_M} (F : FR (fun a i : Nat => a = 0 ∧ i = 12 ∨ 18 ≤ a ∧ a ≤ 27) M M1) : ∀ a i : Nat, (a = 1 ∧ i = 1 ∨ a = 2 ∨ a = 78) → M1.2.1 a i = M.2.1 a i := fun a i z => F_n F (show ¬ (a = 0 ∧ i = 12 ∨ 18 ≤ a ∧ a ≤ 27) by omega) rfl
theorem tg_605 {M M1 : mm_M} (F : FR (fun a i : Nat => a = 77 ∧ (i = 2 ∨ i = 28) ∨ a = 99 ∨ a = 100) M M1) : ∀ a i : Nat, a = 79 → M1.2.1 a i = M.2.1 a i := fun a i z => F_n F (show ¬ (a = 77 ∧ (i = 2 ∨ i = 28) ∨ a = 99 ∨ a = 100) by omega) rfl
theorem tg_606 {M M1 : mm_M} (F : FR (fun a i : Nat => a = 0 ∧ i = 12 ∨ 18 ≤ a ∧ a ≤ 27) M M1) : ∀ a i : Nat, a = 79 → M1.2.1 a i = M.2.1 a i := fun a i z => F_n F (show ¬ (a = 0 ∧ i = 12 ∨ 18 ≤ a ∧ a ≤ 27) by omega) rfl
theorem tg_607 {M M1 : mm_M} (F : FR (fun a i : Nat => a = 77 ∧ (i = 2 ∨ i = 28) ∨ a = 99 ∨ a = 100) M M1) : ∀ a i : Nat, 88 ≤ a ∧ a ≤ 89 → M1.2.1 a i = M.2.1 a i := fun a i z => F_n F (show ¬ (a = 77 ∧ (i = 2 ∨ i = 28) ∨ a = 99 ∨ a = 100) by omega) rfl
theorem tg_608 {M M1 : mm_M} (F : FR (fun a i : Nat => a = 0 ∧ i = 12 ∨ 18 ≤ a ∧ a ≤ 27) M M1) : ∀ a i : Nat, 88 ≤ a ∧ a ≤ 89 → M1.2.1 a i = M.2.1 a i := fun a i z => F_n F (show ¬ (a = 0 ∧ i = 12 ∨ 18 ≤ a ∧ a ≤ 27) by omega) rfl
theorem tg_609 {M M1 : mm_M} (F : FR (fun a i : Nat => 6 ≤ a ∧ a ≤ 10) M M1) : ∀ a i : Nat, NJ_r a i → M1.2.1 a i = M.2.1 a i := fun a i z => F_n F (show ¬ (6 ≤ a ∧ a ≤ 10) by omega) rfl
theorem tg_610 {M M1 : mm_M} (F : FR (fun a i : Nat => 6 ≤ a ∧ a ≤ 10) M M1) : ∀ a i : Nat, (81 ≤ a ∧ a ≤ 84) → M1.2.1 a i = M.2.1 a i := fun a i z => F_n F (show ¬ (6 ≤ a ∧ a ≤ 10) by omega) rfl
theorem tg_611 {M M1 : mm_M} (F : FR (fun a i : Nat => 6 ≤ a ∧ a ≤ 10) M M1) : ∀ a i : Nat, (a = 77 ∧ 11 ≤ i ∧ i ≤ 13 ∨ 80 ≤ a ∧ a ≤ 84 ∧ i < 8 ∨ 85 ≤ a ∧ a ≤ 86 ∧ i < 12) → M1.2.1 a i = M.2.1 a i := fun a i z => F_n F (show ¬ (6 ≤ a ∧ a ≤ 10) by omega) rfl
theorem tg_612 {M M1 : mm_M} (F : FR (fun a i : Nat => a = 77 ∧ (i = 2 ∨ i = 29) ∨ 90 ≤ a ∧ a ≤ 93) M M1) : ∀ a i : Nat, PI_r a → M1.2.1 a i = M.2.1 a i := fun a i z => F_n F (show ¬ (a = 77 ∧ (i = 2 ∨ i = 29) ∨ 90 ≤ a ∧ a ≤ 93) by omega) rfl
theorem tg_613 {M M1 : mm_M} (F : FR (fun a i : Nat => a = 77 ∧ (i = 2 ∨ i = 29) ∨ 90 ≤ a ∧ a ≤ 93) M M1) : ∀ a i : Nat, (7 ≤ a ∧ a ≤ 9) → M1.2.1 a i = M.2.1 a i := fun a i z => F_n F (show ¬ (a = 77 ∧ (i = 2 ∨ i = 29) ∨ 90 ≤ a ∧ a ≤ 93) by omega) rfl
theorem tg_614 {M M1 : mm_M} (F : FR (fun a i : Nat => a = 77 ∧ (i = 2 ∨ i = 29) ∨ 90 ≤ a ∧ a ≤ 93) M M1) : ∀ a i : Nat, (a = 68 ∨ a = 69 ∨ a = 73 ∨ a = 74) → M1.2.1 a i = M.2.1 a i := fun a i z => F_n F (show ¬ (a = 77 ∧ (i = 2 ∨ i = 29) ∨ 90 ≤ a ∧ a ≤ 93) by omega) rfl
theorem tg_615 {M M1 : mm_M} (F : FR (fun a i : Nat => a = 77 ∧ (i = 2 ∨ i = 29) ∨ 90 ≤ a ∧ a ≤ 93) M M1) : ∀ a i : Nat, (81 ≤ a ∧ a ≤ 84) → M1.2.1 a i = M.2.1 a i := fun a i z => F_n F (show ¬ (a = 77 ∧ (i = 2 ∨ i = 29) ∨ 90 ≤ a ∧ a ≤ 93) by omega) rfl
theorem tg_616 {M M1 : mm_M} (F : FR (fun a i : Nat => a = 77 ∧ (i = 2 ∨ i = 29) ∨ 90 ≤ a ∧ a ≤ 93) M M1) : ∀ a i : Nat, WC_r a i → M1.2.1 a i = M.2.1 a i := fun a i z => F_n F (show ¬ (a = 77 ∧ (i = 2 ∨ i = 29) ∨ 90 ≤ a ∧ a ≤ 93) by omega) rfl
theorem tg_617 {M M1 : mm_M} (F : FR (fun a i : Nat => 6 ≤ a ∧ a ≤ 10) M M1) : ∀ a i : Nat, WC_r a i → M1.2.1 a i = M.2.1 a i := fun a i z => F_n F (show ¬ (6 ≤ a ∧ a ≤ 10) by omega) rfl
theorem tg_618 {M M1 : mm_M} (F : FR (fun a i : Nat => a = 77 ∧ (i = 2 ∨ i = 29) ∨ 90 ≤ a ∧ a ≤ 93) M M1) : ∀ a i : Nat, (a = 100 ∨ a = 77 ∧ i = 28) → M1.2.1 a i = M.2.1 a i := fun a i z => F_n F (show ¬ (a = 77 ∧ (i = 2 ∨ i = 29) ∨ 90 ≤ a ∧ a ≤ 93) by omega) rfl
theorem tg_619 {M M1 : mm_M} (F : FR (fun a i : Nat => 6 ≤ a ∧ a ≤ 10) M M1) : ∀ a i : Nat, (a = 100 ∨ a = 77 ∧ i = 28) → M1.2.1 a i = M.2.1 a i := fun a i z => F_n F (show ¬ (6 ≤ a ∧ a ≤ 10) by omega) rfl
theorem tg_620 {M M1 : mm_M} (F : FR (fun a i : Nat => a = 77 ∧ (i = 2 ∨ i = 29) ∨ 90 ≤ a ∧ a ≤ 93) M M1) : ∀ a i : Nat, KQ_r a i → M1.2.1 a i = M.2.1 a i := fun a i z => F_n F (show ¬ (a = 77 ∧ (i = 2 ∨ i = 29) ∨ 90 ≤ a ∧ a ≤ 93) by omega) rfl
theorem tg_621 {M M1 : mm_M} (F : FR (fun a i : Nat => 6 ≤ a ∧ a ≤ 10) M M1) : ∀ a i : Nat, KQ_r a i → M1.2.1 a i = M.2.1 a i := fun a i z => F_n F (show ¬ (6 ≤ a ∧ a ≤ 10) by omega) rfl
theorem tg_622 {M M1 : mm_M} (F : FR (fun a i : Nat => a = 77 ∧ (i = 2 ∨ i = 29) ∨ 90 ≤ a ∧ a ≤ 93) M M1) : ∀ a i : Nat, (a = 1 ∧ i = 1 ∨ a = 2 ∨ a = 78) → M1.2.1 a i = M.2.1 a i := fun a i z => F_n F (show ¬ (a = 77 ∧ (i = 2 ∨ i = 29) ∨ 90 ≤ a ∧ a ≤ 93) by omega) rfl
theorem tg_623 {M M1 : mm_M} (F : FR (fun a i : Nat => 6 ≤ a ∧ a ≤ 10) M M1) : ∀ a i : Nat, (a = 1 ∧ i = 1 ∨ a = 2 ∨ a = 78) → M1.2.1 a i = M.2.1 a i := fun a i z => F_n F (show ¬ (6 ≤ a ∧ a ≤ 10) by omega) rfl
theorem tg_624 {M M1 : mm_M} (F : FR (fun a i : Nat => a = 77 ∧ (i = 2 ∨ i = 29) ∨ 90 ≤ a ∧ a ≤ 93) M M1) : ∀ a i : Nat, a = 79 → M1.2.1 a i = M.2.1 a i := fun a i z => F_n F (show ¬ (a = 77 ∧ (i = 2 ∨ i = 29) ∨ 90 ≤ a ∧ a ≤ 93) by omega) rfl
theorem tg_625 {M M1 : mm_M} (F : FR (fun a i : Nat => 6 ≤ a ∧ a ≤ 10) M M1) : ∀ a i : Nat, a = 79 → M1.2.1 a i = M.2.1 a i := fun a i z => F_n F (show ¬ (6 ≤ a ∧ a ≤ 10) by omega) rfl
theorem tg_626 {M M1 : mm_M} (F : FR (fun a i : Nat => a = 77 ∧ (i = 2 ∨ i = 29) ∨ 90 ≤ a ∧ a ≤ 93) M M1) : ∀ a i : Nat, 88 ≤ a ∧ a ≤ 89 → M1.2.1 a i = M.2.1 a i := fun a i z => F_n F (show ¬ (a = 77 ∧ (i = 2 ∨ i = 29) ∨ 90 ≤ a ∧ a ≤ 93) by omega) rfl
theorem tg_627 {M M1 : mm_M} (F : FR (fun a i : Nat => 6 ≤ a ∧ a ≤ 10) M M1) : ∀ a i : Nat, 88 ≤ a ∧ a ≤ 89 → M1.2.1 a i = M.2.1 a i := fun a i z => F_n F (show ¬ (6 ≤ a ∧ a ≤ 10) by omega) rfl
theorem tg_628 : ∀ a i : Nat, (49 ≤ a ∧ a ≤ 66 ∨ a = 77 ∧ 11 ≤ i ∧ i ≤ 13 ∨ 80 ≤ a ∧ a ≤ 87 ∨ 6 ≤ a ∧ a ≤ 10 ∨ 90 ≤ a ∧ a ≤ 93 ∨ a = 0 ∧ i = 12) → ¬ (a = 77 ∧ (i = 1 ∨ i = 2) ∨ a = 78) := fun a i z => by omega
theorem tg_629 : ∀ a i : Nat, (49 ≤ a ∧ a ≤ 66 ∨ a = 77 ∧ 11 ≤ i ∧ i ≤ 13 ∨ 80 ≤ a ∧ a ≤ 87 ∨ 6 ≤ a ∧ a ≤ 10 ∨ 90 ≤ a ∧ a ≤ 93 ∨ a = 0 ∧ i = 12) → ¬ (a = 1 ∧ i = 1 ∨ a = 2) := fun a i z => by omega
theorem tg_630 : ∀ a i : Nat, (49 ≤ a ∧ a ≤ 66 ∨ a = 77 ∧ 11 ≤ i ∧ i ≤ 13 ∨ 80 ≤ a ∧ a ≤ 87 ∨ 6 ≤ a ∧ a ≤ 10 ∨ 90 ≤ a ∧ a ≤ 93 ∨ a = 0 ∧ i = 12) → ¬ (a = 77 ∧ (1 ≤ i ∧ i ≤ 2 ∨ 4 ≤ i ∧ i ≤ 10 ∨ 42 ≤ i ∧ i ≤ 44 ∨ i = 52) ∨ 94 ≤ a ∧ a ≤ 111) := fun a i z => by omega
theorem tg_631 : ∀ a i : Nat, (49 ≤ a ∧ a ≤ 66 ∨ a = 77 ∧ 11 ≤ i ∧ i ≤ 13 ∨ 80 ≤ a ∧ a ≤ 87 ∨ 6 ≤ a ∧ a ≤ 10 ∨ 90 ≤ a ∧ a ≤ 93 ∨ a = 0 ∧ i = 12) → ¬ (a = 1 ∨ 3 ≤ a ∧ a ≤ 5 ∨ 11 ≤ a ∧ a ≤ 16 ∨ 18 ≤ a ∧ a ≤ 48) := fun a i z => by omega
theorem tg_632 : ∀ a i : Nat, (49 ≤ a ∧ a ≤ 66 ∨ a = 77 ∧ 11 ≤ i ∧ i ≤ 13 ∨ 80 ≤ a ∧ a ≤ 87 ∨ 6 ≤ a ∧ a ≤ 10 ∨ 90 ≤ a ∧ a ≤ 93 ∨ a = 0 ∧ i = 12) → ¬ (a = 77 ∧ (1 ≤ i ∧ i ≤ 2 ∨ 4 ≤ i ∧ i ≤ 10 ∨ 57 ≤ i ∧ i ≤ 59 ∨ 65 ≤ i ∧ i ≤ 69) ∨ 112 ≤ a ∧ a ≤ 116) := fun a i z => by omega
theorem tg_633 : ∀ a i : Nat, (49 ≤ a ∧ a ≤ 66 ∨ a = 77 ∧ 11 ≤ i ∧ i ≤ 13 ∨ 80 ≤ a ∧ a ≤ 87 ∨ 6 ≤ a ∧ a ≤ 10 ∨ 90 ≤ a ∧ a ≤ 93 ∨ a = 0 ∧ i = 12) → ¬ (a = 77 ∧ i = 2) := fun a i z => by omega
theorem tg_634 : ∀ a i : Nat, (49 ≤ a ∧ a ≤ 66 ∨ a = 77 ∧ 11 ≤ i ∧ i ≤ 13 ∨ 80 ≤ a ∧ a ≤ 87 ∨ 6 ≤ a ∧ a ≤ 10 ∨ 90 ≤ a ∧ a ≤ 93 ∨ a = 0 ∧ i = 12) → ¬ (a < 0) := fun a i z => by omega
theorem tg_635 : ∀ a i : Nat, (49 ≤ a ∧ a ≤ 66 ∨ a = 77 ∧ 11 ≤ i ∧ i ≤ 13 ∨ 80 ≤ a ∧ a ≤ 87 ∨ 6 ≤ a ∧ a ≤ 10 ∨ 90 ≤ a ∧ a ≤ 93 ∨ a = 0 ∧ i = 12) → ¬ (a = 77 ∧ i = 2 ∨ 94 ≤ a ∧ a ≤ 98) := fun a i z => by omega
theorem tg_636 : ∀ a i : Nat, (49 ≤ a ∧ a ≤ 66 ∨ a = 77 ∧ 11 ≤ i ∧ i ≤ 13 ∨ 80 ≤ a ∧ a ≤ 87 ∨ 6 ≤ a ∧ a ≤ 10 ∨ 90 ≤ a ∧ a ≤ 93 ∨ a = 0 ∧ i = 12) → ¬ (11 ≤ a ∧ a ≤ 16 ∨ 18 ≤ a ∧ a ≤ 27 ∨ 36 ≤ a ∧ a ≤ 48) := fun a i z => by omega
theorem tg_637 : ∀ a i : Nat, (49 ≤ a ∧ a ≤ 66 ∨ a = 77 ∧ 11 ≤ i ∧ i ≤ 13 ∨ 80 ≤ a ∧ a ≤ 87 ∨ 6 ≤ a ∧ a ≤ 10 ∨ 90 ≤ a ∧ a ≤ 93 ∨ a = 0 ∧ i = 12) → ¬ (a = 77 ∧ (i = 2 ∨ i = 28) ∨ a = 99 ∨ a = 100) := fun a i z => by omega
set_option maxRecDepth 4000 in
set_option maxHeartbeats 0 in
theorem LW_0 {X : mm_X} {d L : Nat} {M : mm_M} {Q : Option Value → mm_M → Prop} {i : Int32} {u5 u6 : Value} (hX : g_X X) (hW : g_W X) (hW2 : g_W2 X) (hL : (X 0).1 = L) (h3 : L ≤ 3072) (hd : 40 ≤ d) (hi : 0 ≤ i.toInt) (hi2 : i.toInt + 6 ≤ (L : Int)) (H : LI10 M) (h : ∀ (M1 : mm_M) (v5 v6 : Value), LI10 M1 → M1.1.2.1 ≤ M.1.2.1 + 1 → M1.1.2.2.1 ≤ M.1.2.2.1 + 6 → mm_T X d 0 1313 [.ref mm_ext, .ref 0, .ref 77, .ref 125, .int i, v5, v6] [] M1 Q) : mm_T X d 0 176 [.ref mm_ext, .ref 0, .ref 77, .ref 125, .int i, u5, u6] [] M Q := by
  obtain ⟨⟨⟨⟨⟨⟨⟨⟨⟨hG, ⟨jPI, jNI, jQI, jPQE⟩, ⟨jFA, jWC, jNJ, jPS, jKQ⟩, jJ, jE⟩, jTP, jW9⟩, jNE, jCC⟩, -⟩, jOV⟩, jW8⟩, jNN⟩, jAN⟩, jKNA, jDN, jPN⟩ := H
  have b_1 := g_b hG (a := 77) (i := 7) (lo := 0) (hi := 500) rfl rfl
  have b_2 := g_b hG (a := 77) (i := 6) (lo := 0) (hi := 500) rfl rfl
  have b_3 := g_b hG (a := 1) (i := 1) (lo := 0) (hi := 500) rfl rfl
  have b_4 := g_b hG (a := 77) (i := 1) (lo := 0) (hi := 500) rfl rfl
  have b_5 := g_b hG (a := 0) (i := 12) (lo := 0) (hi := 30) rfl rfl
  have b_6 := g_b hG (a := 77) (i := 28) (lo := 0) (hi := 30) rfl rfl
  have b_7 := g_b hG (a := 6) (i := 0) (lo := 0) (hi := 150) rfl rfl
  have b_8 := g_b hG (a := 77) (i := 29) (lo := 0) (hi := 150) rfl rfl
  have b_9 := g_b hG (a := 28) (i := 8) (lo := 0) (hi := 3000) rfl rfl
  have b_10 := g_b hG (a := 77) (i := 43) (lo := 0) (hi := 3000) rfl rfl
  refine to_an (pc := 176) rw_0_176 rfl (to_an (pc := 177) rw_0_177 rfl (to_i (pc := 178) rw_0_178 rfl (to_c (pc := 180) rw_0_180 (x := (1 : Int32)) rfl rfl (s_add (pc := 181) rw_0_181 (A := i.toInt) (B := 1) rfl rfl (by omega) (fun v11 e12 => s_x0 (pc := 182) rw_0_182 hL (A := v11.toInt) rfl (by omega) (by omega) (fun v13 e14 => to_an (pc := 183) rw_0_183 rfl (to_i (pc := 184) rw_0_184 rfl (to_c (pc := 186) rw_0_186 (x := (2 : Int32)) rfl rfl (s_add (pc := 187) rw_0_187 (A := i.toInt) (B := 2) rfl rfl (by omega) (fun v15 e16 => s_x0 (pc := 188) rw_0_188 hL (A := v15.toInt) rfl (by omega) (by omega) (fun v17 e18 => to_an (pc := 189) rw_0_189 rfl ?_)))))))))))
  refine to_i (pc := 190) rw_0_190 rfl (to_c (pc := 192) rw_0_192 (x := (3 : Int32)) rfl rfl (s_add (pc := 193) rw_0_193 (A := i.toInt) (B := 3) rfl rfl (by omega) (fun v19 e20 => s_x0 (pc := 194) rw_0_194 hL (A := v19.toInt) rfl (by omega) (by omega) (fun v21 e22 => to_an (pc := 195) rw_0_195 rfl (to_i (pc := 196) rw_0_196 rfl (to_c (pc := 198) rw_0_198 (x := (4 : Int32)) rfl rfl (s_add (pc := 199) rw_0_199 (A := i.toInt) (B := 4) rfl rfl (by omega) (fun v23 e24 => s_x0 (pc := 200) rw_0_200 hL (A := v23.toInt) rfl (by omega) (by omega) (fun v25 e26 => to_an (pc := 201) rw_0_201 rfl (to_i (pc := 202) rw_0_202 rfl (to_c (pc := 204) rw_0_204 (x := (5 : Int32)) rfl rfl ?_)))))))))))
  refine s_add (pc := 205) rw_0_205 (A := i.toInt) (B := 5) rfl rfl (by omega) (fun v27 e28 => s_x0 (pc := 206) rw_0_206 hL (A := v27.toInt) rfl (by omega) (by omega) (fun v29 e30 => s_v (pc := 207) rw_0_207 (dp0 hd (by decide)) (ls0 := [.ref 0, .int v13, .int v17, .int v21, .int v25, .int v29]) rfl (Nat.le_of_ble_eq_true rfl) (Nat.le_of_ble_eq_true rfl) rfl (to_rc rfl rfl rfl (g_o hG rfl)) rfl (E_110 hX (dp1 hd (by decide)) hG (a := v13) (b := v17) (c := v21) (x := v25) (e := v29) (fun r31 M37 hG33 F32 p_34 p_35 p_36 => ?_))))
  have n_38 : M37.1.2.1 = M.1.2.1 ∧ M37.1.2.2.1 = M.1.2.2.1 := by rw [F32.1]; exact ⟨rfl, rfl⟩
  have b_40 := g_b hG33 (a := 1) (i := 1) (lo := 0) (hi := 500) rfl rfl
  refine to_popi (pc := 210) rw_0_210 (to_an (pc := 211) rw_0_211 rfl (to_an (pc := 212) rw_0_212 rfl (to_i (pc := 213) rw_0_213 rfl (to_c (pc := 215) rw_0_215 (x := (1 : Int32)) rfl rfl (s_addk (pc := 216) rw_0_216 (A := i.toInt) (B := 1) rfl rfl (by omega) (v := v11) e12 (s_x0k (pc := 217) rw_0_217 hL (A := v11.toInt) rfl (by omega) (by omega) (v := v13) e14 (to_an (pc := 218) rw_0_218 rfl (to_i (pc := 219) rw_0_219 rfl (to_c (pc := 221) rw_0_221 (x := (2 : Int32)) rfl rfl (s_addk (pc := 222) rw_0_222 (A := i.toInt) (B := 2) rfl rfl (by omega) (v := v15) e16 (s_x0k (pc := 223) rw_0_223 hL (A := v15.toInt) rfl (by omega) (by omega) (v := v17) e18 ?_)))))))))))
  refine to_an (pc := 224) rw_0_224 rfl (to_i (pc := 225) rw_0_225 rfl (to_c (pc := 227) rw_0_227 (x := (3 : Int32)) rfl rfl (s_addk (pc := 228) rw_0_228 (A := i.toInt) (B := 3) rfl rfl (by omega) (v := v19) e20 (s_x0k (pc := 229) rw_0_229 hL (A := v19.toInt) rfl (by omega) (by omega) (v := v21) e22 (to_an (pc := 230) rw_0_230 rfl (to_i (pc := 231) rw_0_231 rfl (to_c (pc := 233) rw_0_233 (x := (4 : Int32)) rfl rfl (s_addk (pc := 234) rw_0_234 (A := i.toInt) (B := 4) rfl rfl (by omega) (v := v23) e24 (s_x0k (pc := 235) rw_0_235 hL (A := v23.toInt) rfl (by omega) (by omega) (v := v25) e26 (to_an (pc := 236) rw_0_236 rfl (to_i (pc := 237) rw_0_237 rfl ?_)))))))))))
  refine to_c (pc := 239) rw_0_239 (x := (5 : Int32)) rfl rfl (s_addk (pc := 240) rw_0_240 (A := i.toInt) (B := 5) rfl rfl (by omega) (v := v27) e28 (s_x0k (pc := 241) rw_0_241 hL (A := v27.toInt) rfl (by omega) (by omega) (v := v29) e30 (s_v (pc := 242) rw_0_242 (dp0 hd (by decide)) (ls0 := [.ref 77, .int v13, .int v17, .int v21, .int v25, .int v29, .null, .null]) rfl (Nat.le_of_ble_eq_true rfl) (Nat.le_of_ble_eq_true rfl) rfl (to_rc rfl rfl rfl (g_o hG33 rfl)) rfl ?_)))
  have c_51 : M37.2.1 77 1 = (M.2.1 77 1) := (F_n F32 (show ¬ (77 = 1 ∧ 1 = 1 ∨ 77 = 2) by decide) rfl)
  have t_52 : (M37.2.1 77 1).toInt = (M.2.1 77 1).toInt := congrArg Int32.toInt c_51
  refine E_148 hX (dp1 hd (by decide)) hG33 (a := v13) (b := v17) (c := v21) (x := v25) (e := v29) (fun r53 M59 hG55 F54 p_56 p_57 p_58 => ?_)
  have n_60 : M59.1.2.1 = M37.1.2.1 ∧ M59.1.2.2.1 = M37.1.2.2.1 := by rw [F54.1]; exact ⟨rfl, rfl⟩
  have b_62 := g_b hG55 (a := 77) (i := 1) (lo := 0) (hi := 500) rfl rfl
  have c_63 : M59.2.1 1 1 = (M37.2.1 1 1) := (F_n F54 (show ¬ (1 = 77 ∧ (1 = 1 ∨ 1 = 2) ∨ 1 = 78) by decide) rfl)
  have t_64 : (M59.2.1 1 1).toInt = (M37.2.1 1 1).toInt := congrArg Int32.toInt c_63
  have z_65 := TP_d jTP (by omega) (by omega) p_36 (by omega) (fun k => (F_n F32 (show ¬ (78 = 1 ∧ k = 1 ∨ 78 = 2) by omega) rfl)) (F_n F32 (show ¬ (77 = 1 ∧ 1 = 1 ∨ 77 = 2) by decide) rfl) p_58 (fun k => (F_n F54 (show ¬ (2 = 77 ∧ (k = 1 ∨ k = 2) ∨ 2 = 78) by omega) rfl))
  refine to_popi (pc := 245) rw_0_245 (to_go (pc := 246) rw_0_246 ?_)
  have c_66 : M59.2.1 77 7 = (M.2.1 77 7) := (F_n F54 (show ¬ (77 = 77 ∧ (7 = 1 ∨ 7 = 2) ∨ 77 = 78) by decide) (F_n F32 (show ¬ (77 = 1 ∧ 7 = 1 ∨ 77 = 2) by decide) rfl))
  have t_67 : (M59.2.1 77 7).toInt = (M.2.1 77 7).toInt := congrArg Int32.toInt c_66
  have c_68 : M59.2.1 77 6 = (M.2.1 77 6) := (F_n F54 (show ¬ (77 = 77 ∧ (6 = 1 ∨ 6 = 2) ∨ 77 = 78) by decide) (F_n F32 (show ¬ (77 = 1 ∧ 6 = 1 ∨ 77 = 2) by decide) rfl))
  have t_69 : (M59.2.1 77 6).toInt = (M.2.1 77 6).toInt := congrArg Int32.toInt c_68
  have c_70 : M59.2.1 0 12 = (M.2.1 0 12) := (F_n F54 (show ¬ (0 = 77 ∧ (12 = 1 ∨ 12 = 2) ∨ 0 = 78) by decide) (F_n F32 (show ¬ (0 = 1 ∧ 12 = 1 ∨ 0 = 2) by decide) rfl))
  have t_71 : (M59.2.1 0 12).toInt = (M.2.1 0 12).toInt := congrArg Int32.toInt c_70
  have c_72 : M59.2.1 77 28 = (M.2.1 77 28) := (F_n F54 (show ¬ (77 = 77 ∧ (28 = 1 ∨ 28 = 2) ∨ 77 = 78) by decide) (F_n F32 (show ¬ (77 = 1 ∧ 28 = 1 ∨ 77 = 2) by decide) rfl))
  have t_73 : (M59.2.1 77 28).toInt = (M.2.1 77 28).toInt := congrArg Int32.toInt c_72
  have c_74 : M59.2.1 17 4 = (M.2.1 17 4) := (F_n F54 (show ¬ (17 = 77 ∧ (4 = 1 ∨ 4 = 2) ∨ 17 = 78) by decide) (F_n F32 (show ¬ (17 = 1 ∧ 4 = 1 ∨ 17 = 2) by decide) rfl))
  have t_75 : (M59.2.1 17 4).toInt = (M.2.1 17 4).toInt := congrArg Int32.toInt c_74
  have c_76 : M59.2.1 77 41 = (M.2.1 77 41) := (F_n F54 (show ¬ (77 = 77 ∧ (41 = 1 ∨ 41 = 2) ∨ 77 = 78) by decide) (F_n F32 (show ¬ (77 = 1 ∧ 41 = 1 ∨ 77 = 2) by decide) rfl))
  have t_77 : (M59.2.1 77 41).toInt = (M.2.1 77 41).toInt := congrArg Int32.toInt c_76
  have c_78 : M59.2.1 6 0 = (M.2.1 6 0) := (F_n F54 (show ¬ (6 = 77 ∧ (0 = 1 ∨ 0 = 2) ∨ 6 = 78) by decide) (F_n F32 (show ¬ (6 = 1 ∧ 0 = 1 ∨ 6 = 2) by decide) rfl))
  have t_79 : (M59.2.1 6 0).toInt = (M.2.1 6 0).toInt := congrArg Int32.toInt c_78
  have c_80 : M59.2.1 77 29 = (M.2.1 77 29) := (F_n F54 (show ¬ (77 = 77 ∧ (29 = 1 ∨ 29 = 2) ∨ 77 = 78) by decide) (F_n F32 (show ¬ (77 = 1 ∧ 29 = 1 ∨ 77 = 2) by decide) rfl))
  have t_81 : (M59.2.1 77 29).toInt = (M.2.1 77 29).toInt := congrArg Int32.toInt c_80
  have c_82 : M59.2.1 28 8 = (M.2.1 28 8) := (F_n F54 (show ¬ (28 = 77 ∧ (8 = 1 ∨ 8 = 2) ∨ 28 = 78) by decide) (F_n F32 (show ¬ (28 = 1 ∧ 8 = 1 ∨ 28 = 2) by decide) rfl))
  have t_83 : (M59.2.1 28 8).toInt = (M.2.1 28 8).toInt := congrArg Int32.toInt c_82
  have c_84 : M59.2.1 77 43 = (M.2.1 77 43) := (F_n F54 (show ¬ (77 = 77 ∧ (43 = 1 ∨ 43 = 2) ∨ 77 = 78) by decide) (F_n F32 (show ¬ (77 = 1 ∧ 43 = 1 ∨ 77 = 2) by decide) rfl))
  have t_85 : (M59.2.1 77 43).toInt = (M.2.1 77 43).toInt := congrArg Int32.toInt c_84
  have c_86 : M59.2.1 28 9 = (M.2.1 28 9) := (F_n F54 (show ¬ (28 = 77 ∧ (9 = 1 ∨ 9 = 2) ∨ 28 = 78) by decide) (F_n F32 (show ¬ (28 = 1 ∧ 9 = 1 ∨ 28 = 2) by decide) rfl))
  have t_87 : (M59.2.1 28 9).toInt = (M.2.1 28 9).toInt := congrArg Int32.toInt c_86
  have c_88 : M59.2.1 77 42 = (M.2.1 77 42) := (F_n F54 (show ¬ (77 = 77 ∧ (42 = 1 ∨ 42 = 2) ∨ 77 = 78) by decide) (F_n F32 (show ¬ (77 = 1 ∧ 42 = 1 ∨ 77 = 2) by decide) rfl))
  have t_89 : (M59.2.1 77 42).toInt = (M.2.1 77 42).toInt := congrArg Int32.toInt c_88
  have j_90 := (PI_f (tg_493 F54) (PI_f (tg_494 F32) jPI))
  have j_91 := (NI_f (tg_495 F54) (NI_f (tg_496 F32) jNI))
  have j_92 := (QI_f (tg_497 F54) (QI_f (tg_498 F32) jQI))
  have j_93 := (PQE_r F54.2.1 (PQE_r F32.2.1 jPQE))
  have j_94 := (FA_f (tg_499 F54) (FA_f (tg_500 F32) jFA))
  have j_95 := (WC_f (tg_501 F54) (WC_f (tg_502 F32) jWC))
  have j_96 := (NJ_f (tg_503 F54) (NJ_f (tg_504 F32) jNJ))
  have j_97 := (PS_f (tg_505 F54) (PS_f (tg_506 F32) jPS))
  have j_98 := (KQ_f (tg_507 F54) (KQ_f (tg_508 F32) jKQ))
  have j_99 := (W9_f (tg_509 F54) (W9_f (tg_510 F32) jW9))
  have j_100 := (AN_F F54 tg_628 (AN_F F32 tg_629 jAN))
  have j_101 := (KNA_F F54 (fun a i z => show ¬ (a = 77 ∧ (i = 1 ∨ i = 2) ∨ a = 78) by omega) (KNA_F F32 (fun a i z => show ¬ (a = 1 ∧ i = 1 ∨ a = 2) by omega) jKNA))
  have j_102 := (NE_r F54.2.1 (NE_r F32.2.1 jNE))
  have j_103 := (W8_f (tg_511 F54) (W8_f (tg_512 F32) jW8))
  exact h M59 (u5) (u6) ⟨⟨⟨⟨⟨⟨⟨⟨⟨hG55, ⟨j_90, j_91, j_92, j_93⟩, ⟨j_94, j_95, j_96, j_97, j_98⟩, by omega, by omega⟩, z_65, j_99⟩, j_102, by omega⟩, AN_a j_100⟩, by omega⟩, j_103⟩, by omega⟩, j_100⟩, j_101, by omega, by omega⟩ (by omega) (by omega)
set_option maxRecDepth 4000 in
set_option maxHeartbeats 0 in
theorem LW_1 {X : mm_X} {d L : Nat} {M : mm_M} {Q : Option Value → mm_M → Prop} {i : Int32} {u5 u6 : Value} (hX : g_X X) (hW : g_W X) (hW2 : g_W2 X) (hL : (X 0).1 = L) (h3 : L ≤ 3072) (hd : 40 ≤ d) (hi : 0 ≤ i.toInt) (hi2 : i.toInt + 6 ≤ (L : Int)) (H : LI10 M) (h : ∀ (M1 : mm_M) (v5 v6 : Value), LI10 M1 → M1.1.2.1 ≤ M.1.2.1 + 1 → M1.1.2.2.1 ≤ M.1.2.2.1 + 6 → mm_T X d 0 1313 [.ref mm_ext, .ref 0, .ref 77, .ref 125, .int i, v5, v6] [] M1 Q) : mm_T X d 0 249 [.ref mm_ext, .ref 0, .ref 77, .ref 125, .int i, u5, u6] [] M Q := by
  obtain ⟨⟨⟨⟨⟨⟨⟨⟨⟨hG, ⟨jPI, jNI, jQI, jPQE⟩, ⟨jFA, jWC, jNJ, jPS, jKQ⟩, jJ, jE⟩, jTP, jW9⟩, jNE, jCC⟩, -⟩, jOV⟩, jW8⟩, jNN⟩, jAN⟩, jKNA, jDN, jPN⟩ := H
  have b_1 := g_b hG (a := 77) (i := 7) (lo := 0) (hi := 500) rfl rfl
  have b_2 := g_b hG (a := 77) (i := 6) (lo := 0) (hi := 500) rfl rfl
  have b_3 := g_b hG (a := 1) (i := 1) (lo := 0) (hi := 500) rfl rfl
  have b_4 := g_b hG (a := 77) (i := 1) (lo := 0) (hi := 500) rfl rfl
  have b_5 := g_b hG (a := 0) (i := 12) (lo := 0) (hi := 30) rfl rfl
  have b_6 := g_b hG (a := 77) (i := 28) (lo := 0) (hi := 30) rfl rfl
  have b_7 := g_b hG (a := 6) (i := 0) (lo := 0) (hi := 150) rfl rfl
  have b_8 := g_b hG (a := 77) (i := 29) (lo := 0) (hi := 150) rfl rfl
  have b_9 := g_b hG (a := 28) (i := 8) (lo := 0) (hi := 3000) rfl rfl
  have b_10 := g_b hG (a := 77) (i := 43) (lo := 0) (hi := 3000) rfl rfl
  refine to_an (pc := 249) rw_0_249 rfl (to_an (pc := 250) rw_0_250 rfl (to_i (pc := 251) rw_0_251 rfl (to_c (pc := 253) rw_0_253 (x := (1 : Int32)) rfl rfl (s_add (pc := 254) rw_0_254 (A := i.toInt) (B := 1) rfl rfl (by omega) (fun v11 e12 => s_x0 (pc := 255) rw_0_255 hL (A := v11.toInt) rfl (by omega) (by omega) (fun v13 e14 => s_v (pc := 256) rw_0_256 (dp0 hd (by decide)) (ls0 := [.ref 0, .int v13, .null]) rfl (Nat.le_of_ble_eq_true rfl) (Nat.le_of_ble_eq_true rfl) rfl (to_rc rfl rfl rfl (g_o hG rfl)) rfl ?_))))))
  obtain ⟨pz15, pzz15, qz15, qzz15, hpz15, hpzz15, hqz15, hqzz15, hpqz15⟩ := id jPQE
  have z_16 := KNA_u hpqz15 jKNA
  obtain ⟨t, nn, hn1, hT1, hR1⟩ := TP_X (n := v13.toInt) jTP
  refine D_111 hX (dp1 hd (by decide)) hG hpz15 hpzz15 hqz15 hqzz15 hpqz15 jPI jNI jQI (by omega) hT1 hW (NE_p hpqz15 jNE) (n := v13) (t := t) (nn := nn) (p := pz15) (pz := pzz15) (q := qz15) (qz := qzz15) (fun r17 M38 hG19 F18 p_20 p_21 p_22 p_23 p_24 p_25 p_26 p_27 p_28 p_29 p_30 p_31 p_32 p_33 p_34 p_35 p_36 p_37 => ?_)
  have n_39 : M38.1.2.1 = M.1.2.1 ∧ M38.1.2.2.1 = M.1.2.2.1 := by rw [F18.1]; exact ⟨rfl, rfl⟩
  have b_41 := g_b hG19 (a := 1) (i := 1) (lo := 0) (hi := 500) rfl rfl
  have b_42 := g_b hG19 (a := 0) (i := 12) (lo := 0) (hi := 30) rfl rfl
  have b_43 := g_b hG19 (a := 6) (i := 0) (lo := 0) (hi := 150) rfl rfl
  have b_44 := g_b hG19 (a := 28) (i := 8) (lo := 0) (hi := 3000) rfl rfl
  have z_45 := TP_s jTP (by omega) (fun a i z => (Fx_n F18 (show ¬ (a ≤ 76 ∧ ¬ a = 2) by omega) rfl))
  refine to_popi (pc := 259) rw_0_259 (to_an (pc := 260) rw_0_260 rfl (to_an (pc := 261) rw_0_261 rfl (to_i (pc := 262) rw_0_262 rfl (to_c (pc := 264) rw_0_264 (x := (1 : Int32)) rfl rfl (s_addk (pc := 265) rw_0_265 (A := i.toInt) (B := 1) rfl rfl (by omega) (v := v11) e12 (s_x0k (pc := 266) rw_0_266 hL (A := v11.toInt) rfl (by omega) (by omega) (v := v13) e14 (s_v (pc := 267) rw_0_267 (dp0 hd (by decide)) (ls0 := [.ref 77, .int v13, .null]) rfl (Nat.le_of_ble_eq_true rfl) (Nat.le_of_ble_eq_true rfl) rfl (to_rc rfl rfl rfl (g_o hG19 rfl)) rfl ?_)))))))
  have c_48 : M38.2.1 77 1 = (M.2.1 77 1) := (Fx_n F18 (show ¬ (77 ≤ 76 ∧ ¬ 77 = 2) by decide) rfl)
  have t_49 : (M38.2.1 77 1).toInt = (M.2.1 77 1).toInt := congrArg Int32.toInt c_48
  have c_50 : M38.2.1 77 28 = (M.2.1 77 28) := (Fx_n F18 (show ¬ (77 ≤ 76 ∧ ¬ 77 = 2) by decide) rfl)
  have t_51 : (M38.2.1 77 28).toInt = (M.2.1 77 28).toInt := congrArg Int32.toInt c_50
  have c_52 : M38.2.1 77 29 = (M.2.1 77 29) := (Fx_n F18 (show ¬ (77 ≤ 76 ∧ ¬ 77 = 2) by decide) rfl)
  have t_53 : (M38.2.1 77 29).toInt = (M.2.1 77 29).toInt := congrArg Int32.toInt c_52
  have c_54 : M38.2.1 77 41 = (M.2.1 77 41) := (Fx_n F18 (show ¬ (77 ≤ 76 ∧ ¬ 77 = 2) by decide) rfl)
  have t_55 : (M38.2.1 77 41).toInt = (M.2.1 77 41).toInt := congrArg Int32.toInt c_54
  have c_56 : M38.2.1 77 42 = (M.2.1 77 42) := (Fx_n F18 (show ¬ (77 ≤ 76 ∧ ¬ 77 = 2) by decide) rfl)
  have t_57 : (M38.2.1 77 42).toInt = (M.2.1 77 42).toInt := congrArg Int32.toInt c_56
  have c_58 : M38.2.1 77 43 = (M.2.1 77 43) := (Fx_n F18 (show ¬ (77 ≤ 76 ∧ ¬ 77 = 2) by decide) rfl)
  have t_59 : (M38.2.1 77 43).toInt = (M.2.1 77 43).toInt := congrArg Int32.toInt c_58
  have c_60 : M38.2.1 77 58 = (M.2.1 77 58) := (Fx_n F18 (show ¬ (77 ≤ 76 ∧ ¬ 77 = 2) by decide) rfl)
  have b_61 := g_b hG (a := 77) (i := 58) (lo := 0) (hi := 40) rfl rfl
  have t_62 : (M38.2.1 77 58).toInt = (M.2.1 77 58).toInt := congrArg Int32.toInt c_60
  have c_63 : M38.2.1 77 7 = (M.2.1 77 7) := (Fx_n F18 (show ¬ (77 ≤ 76 ∧ ¬ 77 = 2) by decide) rfl)
  have t_64 : (M38.2.1 77 7).toInt = (M.2.1 77 7).toInt := congrArg Int32.toInt c_63
  have c_65 : M38.2.1 77 6 = (M.2.1 77 6) := (Fx_n F18 (show ¬ (77 ≤ 76 ∧ ¬ 77 = 2) by decide) rfl)
  have t_66 : (M38.2.1 77 6).toInt = (M.2.1 77 6).toInt := congrArg Int32.toInt c_65
  have j_67 := (FA_f (tg_513 F18) jFA)
  have j_68 := (WC_f (tg_514 F18) jWC)
  have j_69 := (NJ_f (tg_515 F18) jNJ)
  have j_70 := (PS_f (tg_516 F18) jPS)
  have j_71 := (KQ_f (tg_517 F18) jKQ)
  have j_72 := (TR_f (tg_518 F18) hR1)
  have j_73 := (W9_f (tg_519 F18) jW9)
  refine D_173 hX (dp1 hd (by decide)) hG19 (by omega) j_67 j_68 j_69 j_70 j_71 (by omega) j_72 j_73 (n := v13) (t := t) (nn := nn) (fun r74 M96 hG76 F75 p_77 p_78 p_79 p_80 p_81 p_82 p_83 p_84 p_85 p_86 p_87 p_88 p_89 p_90 p_91 p_92 p_93 p_94 p_95 => ?_)
  have n_97 : M96.1.2.1 = M38.1.2.1 ∧ M96.1.2.2.1 = M38.1.2.2.1 := by rw [F75.1]; exact ⟨rfl, rfl⟩
  have b_99 := g_b hG76 (a := 77) (i := 7) (lo := 0) (hi := 500) rfl rfl
  have b_100 := g_b hG76 (a := 77) (i := 6) (lo := 0) (hi := 500) rfl rfl
  have b_101 := g_b hG76 (a := 77) (i := 1) (lo := 0) (hi := 500) rfl rfl
  have b_102 := g_b hG76 (a := 77) (i := 28) (lo := 0) (hi := 30) rfl rfl
  have b_103 := g_b hG76 (a := 77) (i := 29) (lo := 0) (hi := 150) rfl rfl
  have b_104 := g_b hG76 (a := 77) (i := 43) (lo := 0) (hi := 3000) rfl rfl
  have b_105 := g_b hG76 (a := 77) (i := 58) (lo := 0) (hi := 40) rfl rfl
  have z_106 := PAN_q (h1 := (M.2.1 1 1).toInt) (h2 := (M38.2.1 77 1).toInt) (by omega) p_26 p_85 p_27 p_86
  have z_107 := KNA_n hqz15 hqzz15 z_16 z_106 p_23 p_37 (congrArg Int32.toInt (Fx_n F18 (show ¬ (77 ≤ 76 ∧ ¬ 77 = 2) by decide) rfl)) F75 (fun a i z => show ¬ (a = 77 ∨ 79 < a ∧ a ≤ 87 ∨ a = 100) by omega) p_94 p_95
  have z_108 := AN_p jAN hpqz15 z_106 p_31 p_32 F18 (fun a i z => show ¬ (a ≤ 76 ∧ ¬ a = 2) by omega) F75 (fun a i z => show ¬ (a = 77 ∨ 79 < a ∧ a ≤ 87 ∨ a = 100) by omega) p_90 p_91 p_34 (fun z => by omega)
  refine to_popi (pc := 270) rw_0_270 (to_go (pc := 271) rw_0_271 ?_)
  have c_109 : M96.2.1 1 1 = (M38.2.1 1 1) := (F_n F75 (show ¬ (1 = 77 ∨ 79 < 1 ∧ 1 ≤ 87 ∨ 1 = 100) by decide) rfl)
  have t_110 : (M96.2.1 1 1).toInt = (M38.2.1 1 1).toInt := congrArg Int32.toInt c_109
  have c_111 : M96.2.1 0 12 = (M38.2.1 0 12) := (F_n F75 (show ¬ (0 = 77 ∨ 79 < 0 ∧ 0 ≤ 87 ∨ 0 = 100) by decide) rfl)
  have t_112 : (M96.2.1 0 12).toInt = (M38.2.1 0 12).toInt := congrArg Int32.toInt c_111
  have c_113 : M96.2.1 17 4 = (M38.2.1 17 4) := (F_n F75 (show ¬ (17 = 77 ∨ 79 < 17 ∧ 17 ≤ 87 ∨ 17 = 100) by decide) rfl)
  have t_114 : (M96.2.1 17 4).toInt = (M38.2.1 17 4).toInt := congrArg Int32.toInt c_113
  have c_115 : M96.2.1 6 0 = (M38.2.1 6 0) := (F_n F75 (show ¬ (6 = 77 ∨ 79 < 6 ∧ 6 ≤ 87 ∨ 6 = 100) by decide) rfl)
  have t_116 : (M96.2.1 6 0).toInt = (M38.2.1 6 0).toInt := congrArg Int32.toInt c_115
  have c_117 : M96.2.1 28 8 = (M38.2.1 28 8) := (F_n F75 (show ¬ (28 = 77 ∨ 79 < 28 ∧ 28 ≤ 87 ∨ 28 = 100) by decide) rfl)
  have t_118 : (M96.2.1 28 8).toInt = (M38.2.1 28 8).toInt := congrArg Int32.toInt c_117
  have c_119 : M96.2.1 28 9 = (M38.2.1 28 9) := (F_n F75 (show ¬ (28 = 77 ∨ 79 < 28 ∧ 28 ≤ 87 ∨ 28 = 100) by decide) rfl)
  have t_120 : (M96.2.1 28 9).toInt = (M38.2.1 28 9).toInt := congrArg Int32.toInt c_119
  have j_121 := (PI_f (tg_520 F75) p_22)
  have j_122 := (NI_f (tg_521 F75) p_24)
  have j_123 := (QI_f (tg_522 F75) p_25)
  have j_124 := (PQE_r F75.2.1 (PQE_pp hpz15 hpzz15 hqz15 hqzz15 p_23))
  have j_125 := (TP_f (tg_523 F75) z_45)
  have j_126 := (W9_f (tg_524 F75) j_73)
  have j_127 := (NE_r F75.2.1 p_33)
  have j_128 := (W8_f (tg_525 F75) (W8_f (tg_526 F18) jW8))
  exact h M96 (u5) (u6) ⟨⟨⟨⟨⟨⟨⟨⟨⟨hG76, ⟨j_121, j_122, j_123, j_124⟩, ⟨p_78, p_79, p_80, p_81, p_82⟩, by omega, by omega⟩, j_125, j_126⟩, j_127, by omega⟩, AN_a z_108⟩, by omega⟩, j_128⟩, by omega⟩, z_108⟩, z_107, by omega, by omega⟩ (by omega) (by omega)
set_option maxRecDepth 4000 in
set_option maxHeartbeats 0 in
theorem LW_2 {X : mm_X} {d L : Nat} {M : mm_M} {Q : Option Value → mm_M → Prop} {i : Int32} {u5 u6 : Value} (hX : g_X X) (hW : g_W X) (hW2 : g_W2 X) (hL : (X 0).1 = L) (h3 : L ≤ 3072) (hd : 40 ≤ d) (hi : 0 ≤ i.toInt) (hi2 : i.toInt + 6 ≤ (L : Int)) (H : LI10 M) (h : ∀ (M1 : mm_M) (v5 v6 : Value), LI10 M1 → M1.1.2.1 ≤ M.1.2.1 + 1 → M1.1.2.2.1 ≤ M.1.2.2.1 + 6 → mm_T X d 0 1313 [.ref mm_ext, .ref 0, .ref 77, .ref 125, .int i, v5, v6] [] M1 Q) : mm_T X d 0 274 [.ref mm_ext, .ref 0, .ref 77, .ref 125, .int i, u5, u6] [] M Q := by
  obtain ⟨⟨⟨⟨⟨⟨⟨⟨⟨hG, ⟨jPI, jNI, jQI, jPQE⟩, ⟨jFA, jWC, jNJ, jPS, jKQ⟩, jJ, jE⟩, jTP, jW9⟩, jNE, jCC⟩, -⟩, jOV⟩, jW8⟩, jNN⟩, jAN⟩, jKNA, jDN, jPN⟩ := H
  have b_1 := g_b hG (a := 77) (i := 7) (lo := 0) (hi := 500) rfl rfl
  have b_2 := g_b hG (a := 77) (i := 6) (lo := 0) (hi := 500) rfl rfl
  have b_3 := g_b hG (a := 1) (i := 1) (lo := 0) (hi := 500) rfl rfl
  have b_4 := g_b hG (a := 77) (i := 1) (lo := 0) (hi := 500) rfl rfl
  have b_5 := g_b hG (a := 0) (i := 12) (lo := 0) (hi := 30) rfl rfl
  have b_6 := g_b hG (a := 77) (i := 28) (lo := 0) (hi := 30) rfl rfl
  have b_7 := g_b hG (a := 6) (i := 0) (lo := 0) (hi := 150) rfl rfl
  have b_8 := g_b hG (a := 77) (i := 29) (lo := 0) (hi := 150) rfl rfl
  have b_9 := g_b hG (a := 28) (i := 8) (lo := 0) (hi := 3000) rfl rfl
  have b_10 := g_b hG (a := 77) (i := 43) (lo := 0) (hi := 3000) rfl rfl
  refine to_an (pc := 274) rw_0_274 rfl (to_an (pc := 275) rw_0_275 rfl (to_i (pc := 276) rw_0_276 rfl (to_c (pc := 278) rw_0_278 (x := (1 : Int32)) rfl rfl (s_add (pc := 279) rw_0_279 (A := i.toInt) (B := 1) rfl rfl (by omega) (fun v11 e12 => s_x0 (pc := 280) rw_0_280 hL (A := v11.toInt) rfl (by omega) (by omega) (fun v13 e14 => s_v (pc := 281) rw_0_281 (dp0 hd (by decide)) (ls0 := [.ref 0, .int v13]) rfl (Nat.le_of_ble_eq_true rfl) (Nat.le_of_ble_eq_true rfl) rfl (to_rc rfl rfl rfl (g_o hG rfl)) rfl ?_))))))
  obtain ⟨pz15, pzz15, qz15, qzz15, hpz15, hpzz15, hqz15, hqzz15, hpqz15⟩ := id jPQE
  obtain ⟨sg, NN, nz, ca, hs1, hs2, hn1, hn2, hn3, hn4, hn5⟩ := AN_u jAN hpqz15
  obtain ⟨t, nn, hn1, hT1, hR1⟩ := TP_X (n := v13.toInt) jTP
  refine E_112 hX (dp1 hd (by decide)) hG hpz15 hpzz15 hqz15 hqzz15 hpqz15 jNI jPI jQI (by omega) hT1 hW hs1.1 (n := v13) (t := t) (nn := nn) (sg := sg) (p := pz15) (pz := pzz15) (q := qz15) (qz := qzz15) (fun r16 M28 hG18 F17 p_19 p_20 p_21 p_22 p_23 p_24 p_25 p_26 p_27 => ?_)
  have n_29 : M28.1.2.1 = M.1.2.1 ∧ M28.1.2.2.1 = M.1.2.2.1 := by rw [F17.1]; exact ⟨rfl, rfl⟩
  have b_31 := g_b hG18 (a := 1) (i := 1) (lo := 0) (hi := 500) rfl rfl
  have b_32 := g_b hG18 (a := 28) (i := 8) (lo := 0) (hi := 3000) rfl rfl
  have z_33 := TP_s jTP (by omega) (fun a i z => (F_n F17 (show ¬ (a = 1 ∨ 3 ≤ a ∧ a ≤ 5 ∨ 11 ≤ a ∧ a ≤ 16 ∨ 18 ≤ a ∧ a ≤ 48) by omega) rfl))
  refine to_popi (pc := 284) rw_0_284 (to_an (pc := 285) rw_0_285 rfl (to_an (pc := 286) rw_0_286 rfl (to_i (pc := 287) rw_0_287 rfl (to_c (pc := 289) rw_0_289 (x := (1 : Int32)) rfl rfl (s_addk (pc := 290) rw_0_290 (A := i.toInt) (B := 1) rfl rfl (by omega) (v := v11) e12 (s_x0k (pc := 291) rw_0_291 hL (A := v11.toInt) rfl (by omega) (by omega) (v := v13) e14 (s_v (pc := 292) rw_0_292 (dp0 hd (by decide)) (ls0 := [.ref 77, .int v13]) rfl (Nat.le_of_ble_eq_true rfl) (Nat.le_of_ble_eq_true rfl) rfl (to_rc rfl rfl rfl (g_o hG18 rfl)) rfl ?_)))))))
  have c_36 : M28.2.1 77 1 = (M.2.1 77 1) := (F_n F17 (show ¬ (77 = 1 ∨ 3 ≤ 77 ∧ 77 ≤ 5 ∨ 11 ≤ 77 ∧ 77 ≤ 16 ∨ 18 ≤ 77 ∧ 77 ≤ 48) by decide) rfl)
  have t_37 : (M28.2.1 77 1).toInt = (M.2.1 77 1).toInt := congrArg Int32.toInt c_36
  have c_38 : M28.2.1 77 42 = (M.2.1 77 42) := (F_n F17 (show ¬ (77 = 1 ∨ 3 ≤ 77 ∧ 77 ≤ 5 ∨ 11 ≤ 77 ∧ 77 ≤ 16 ∨ 18 ≤ 77 ∧ 77 ≤ 48) by decide) rfl)
  have t_39 : (M28.2.1 77 42).toInt = (M.2.1 77 42).toInt := congrArg Int32.toInt c_38
  have c_40 : M28.2.1 77 43 = (M.2.1 77 43) := (F_n F17 (show ¬ (77 = 1 ∨ 3 ≤ 77 ∧ 77 ≤ 5 ∨ 11 ≤ 77 ∧ 77 ≤ 16 ∨ 18 ≤ 77 ∧ 77 ≤ 48) by decide) rfl)
  have t_41 : (M28.2.1 77 43).toInt = (M.2.1 77 43).toInt := congrArg Int32.toInt c_40
  have c_42 : M28.2.1 77 7 = (M.2.1 77 7) := (F_n F17 (show ¬ (77 = 1 ∨ 3 ≤ 77 ∧ 77 ≤ 5 ∨ 11 ≤ 77 ∧ 77 ≤ 16 ∨ 18 ≤ 77 ∧ 77 ≤ 48) by decide) rfl)
  have t_43 : (M28.2.1 77 7).toInt = (M.2.1 77 7).toInt := congrArg Int32.toInt c_42
  have c_44 : M28.2.1 77 6 = (M.2.1 77 6) := (F_n F17 (show ¬ (77 = 1 ∨ 3 ≤ 77 ∧ 77 ≤ 5 ∨ 11 ≤ 77 ∧ 77 ≤ 16 ∨ 18 ≤ 77 ∧ 77 ≤ 48) by decide) rfl)
  have t_45 : (M28.2.1 77 6).toInt = (M.2.1 77 6).toInt := congrArg Int32.toInt c_44
  have j_46 := (FA_f (tg_527 F17) jFA)
  have j_47 := (WC_f (tg_528 F17) jWC)
  have j_48 := (NJ_f (tg_529 F17) jNJ)
  have j_49 := (PS_f (tg_530 F17) jPS)
  have j_50 := (KQ_f (tg_531 F17) jKQ)
  have j_51 := (TR_f (tg_532 F17) hR1)
  have j_52 := (W9_f (tg_533 F17) jW9)
  have j_53 := (PLk_f (tg_534 F17) hs2.1)
  refine E_219 hX (dp1 hd (by decide)) hG18 (by omega) j_46 j_47 j_48 j_49 j_50 (by omega) j_51 j_52 j_53 (n := v13) (t := t) (nn := nn) (sg := sg) (fun r54 M69 hG56 F55 p_57 p_58 p_59 p_60 p_61 p_62 p_63 p_64 p_65 p_66 p_67 p_68 => ?_)
  have n_70 : M69.1.2.1 = M28.1.2.1 ∧ M69.1.2.2.1 = M28.1.2.2.1 := by rw [F55.1]; exact ⟨rfl, rfl⟩
  have b_72 := g_b hG56 (a := 77) (i := 7) (lo := 0) (hi := 500) rfl rfl
  have b_73 := g_b hG56 (a := 77) (i := 6) (lo := 0) (hi := 500) rfl rfl
  have b_74 := g_b hG56 (a := 77) (i := 1) (lo := 0) (hi := 500) rfl rfl
  have b_75 := g_b hG56 (a := 77) (i := 43) (lo := 0) (hi := 3000) rfl rfl
  have z_76 := WAN_q (h1 := (M.2.1 1 1).toInt) (h2 := (M28.2.1 77 1).toInt) (by omega) p_24 p_65 p_27 p_68
  have z_77 := z_76.1
  have z_78 := z_76.2
  refine to_popi (pc := 295) rw_0_295 (to_go (pc := 296) rw_0_296 ?_)
  have c_79 : M69.2.1 1 1 = (M28.2.1 1 1) := (F_n F55 (show ¬ (1 = 77 ∧ (1 ≤ 1 ∧ 1 ≤ 2 ∨ 4 ≤ 1 ∧ 1 ≤ 10 ∨ 42 ≤ 1 ∧ 1 ≤ 44 ∨ 1 = 52) ∨ 94 ≤ 1 ∧ 1 ≤ 111) by decide) rfl)
  have t_80 : (M69.2.1 1 1).toInt = (M28.2.1 1 1).toInt := congrArg Int32.toInt c_79
  have c_81 : M69.2.1 0 12 = (M.2.1 0 12) := (F_n F55 (show ¬ (0 = 77 ∧ (1 ≤ 12 ∧ 12 ≤ 2 ∨ 4 ≤ 12 ∧ 12 ≤ 10 ∨ 42 ≤ 12 ∧ 12 ≤ 44 ∨ 12 = 52) ∨ 94 ≤ 0 ∧ 0 ≤ 111) by decide) (F_n F17 (show ¬ (0 = 1 ∨ 3 ≤ 0 ∧ 0 ≤ 5 ∨ 11 ≤ 0 ∧ 0 ≤ 16 ∨ 18 ≤ 0 ∧ 0 ≤ 48) by decide) rfl))
  have t_82 : (M69.2.1 0 12).toInt = (M.2.1 0 12).toInt := congrArg Int32.toInt c_81
  have c_83 : M69.2.1 77 28 = (M.2.1 77 28) := (F_n F55 (show ¬ (77 = 77 ∧ (1 ≤ 28 ∧ 28 ≤ 2 ∨ 4 ≤ 28 ∧ 28 ≤ 10 ∨ 42 ≤ 28 ∧ 28 ≤ 44 ∨ 28 = 52) ∨ 94 ≤ 77 ∧ 77 ≤ 111) by decide) (F_n F17 (show ¬ (77 = 1 ∨ 3 ≤ 77 ∧ 77 ≤ 5 ∨ 11 ≤ 77 ∧ 77 ≤ 16 ∨ 18 ≤ 77 ∧ 77 ≤ 48) by decide) rfl))
  have t_84 : (M69.2.1 77 28).toInt = (M.2.1 77 28).toInt := congrArg Int32.toInt c_83
  have c_85 : M69.2.1 17 4 = (M.2.1 17 4) := (F_n F55 (show ¬ (17 = 77 ∧ (1 ≤ 4 ∧ 4 ≤ 2 ∨ 4 ≤ 4 ∧ 4 ≤ 10 ∨ 42 ≤ 4 ∧ 4 ≤ 44 ∨ 4 = 52) ∨ 94 ≤ 17 ∧ 17 ≤ 111) by decide) (F_n F17 (show ¬ (17 = 1 ∨ 3 ≤ 17 ∧ 17 ≤ 5 ∨ 11 ≤ 17 ∧ 17 ≤ 16 ∨ 18 ≤ 17 ∧ 17 ≤ 48) by decide) rfl))
  have t_86 : (M69.2.1 17 4).toInt = (M.2.1 17 4).toInt := congrArg Int32.toInt c_85
  have c_87 : M69.2.1 77 41 = (M.2.1 77 41) := (F_n F55 (show ¬ (77 = 77 ∧ (1 ≤ 41 ∧ 41 ≤ 2 ∨ 4 ≤ 41 ∧ 41 ≤ 10 ∨ 42 ≤ 41 ∧ 41 ≤ 44 ∨ 41 = 52) ∨ 94 ≤ 77 ∧ 77 ≤ 111) by decide) (F_n F17 (show ¬ (77 = 1 ∨ 3 ≤ 77 ∧ 77 ≤ 5 ∨ 11 ≤ 77 ∧ 77 ≤ 16 ∨ 18 ≤ 77 ∧ 77 ≤ 48) by decide) rfl))
  have t_88 : (M69.2.1 77 41).toInt = (M.2.1 77 41).toInt := congrArg Int32.toInt c_87
  have c_89 : M69.2.1 6 0 = (M.2.1 6 0) := (F_n F55 (show ¬ (6 = 77 ∧ (1 ≤ 0 ∧ 0 ≤ 2 ∨ 4 ≤ 0 ∧ 0 ≤ 10 ∨ 42 ≤ 0 ∧ 0 ≤ 44 ∨ 0 = 52) ∨ 94 ≤ 6 ∧ 6 ≤ 111) by decide) (F_n F17 (show ¬ (6 = 1 ∨ 3 ≤ 6 ∧ 6 ≤ 5 ∨ 11 ≤ 6 ∧ 6 ≤ 16 ∨ 18 ≤ 6 ∧ 6 ≤ 48) by decide) rfl))
  have t_90 : (M69.2.1 6 0).toInt = (M.2.1 6 0).toInt := congrArg Int32.toInt c_89
  have c_91 : M69.2.1 77 29 = (M.2.1 77 29) := (F_n F55 (show ¬ (77 = 77 ∧ (1 ≤ 29 ∧ 29 ≤ 2 ∨ 4 ≤ 29 ∧ 29 ≤ 10 ∨ 42 ≤ 29 ∧ 29 ≤ 44 ∨ 29 = 52) ∨ 94 ≤ 77 ∧ 77 ≤ 111) by decide) (F_n F17 (show ¬ (77 = 1 ∨ 3 ≤ 77 ∧ 77 ≤ 5 ∨ 11 ≤ 77 ∧ 77 ≤ 16 ∨ 18 ≤ 77 ∧ 77 ≤ 48) by decide) rfl))
  have t_92 : (M69.2.1 77 29).toInt = (M.2.1 77 29).toInt := congrArg Int32.toInt c_91
  have c_93 : M69.2.1 28 8 = (M28.2.1 28 8) := (F_n F55 (show ¬ (28 = 77 ∧ (1 ≤ 8 ∧ 8 ≤ 2 ∨ 4 ≤ 8 ∧ 8 ≤ 10 ∨ 42 ≤ 8 ∧ 8 ≤ 44 ∨ 8 = 52) ∨ 94 ≤ 28 ∧ 28 ≤ 111) by decide) rfl)
  have t_94 : (M69.2.1 28 8).toInt = (M28.2.1 28 8).toInt := congrArg Int32.toInt c_93
  have c_95 : M69.2.1 28 9 = (M28.2.1 28 9) := (F_n F55 (show ¬ (28 = 77 ∧ (1 ≤ 9 ∧ 9 ≤ 2 ∨ 4 ≤ 9 ∧ 9 ≤ 10 ∨ 42 ≤ 9 ∧ 9 ≤ 44 ∨ 9 = 52) ∨ 94 ≤ 28 ∧ 28 ≤ 111) by decide) rfl)
  have t_96 : (M69.2.1 28 9).toInt = (M28.2.1 28 9).toInt := congrArg Int32.toInt c_95
  have j_97 := (PI_f (tg_535 F55) p_21)
  have j_98 := (NI_f (tg_536 F55) p_22)
  have j_99 := (QI_f (tg_537 F55) p_23)
  have j_100 := (PQE_r F55.2.1 (PQE_r F17.2.1 jPQE))
  have j_101 := (TP_f (tg_538 F55) z_33)
  have j_102 := (W9_f (tg_539 F55) j_52)
  have j_103 := (AN_F F55 tg_630 (AN_F F17 tg_631 jAN))
  have j_104 := (KNA_F F55 (fun a i z => show ¬ (a = 77 ∧ (1 ≤ i ∧ i ≤ 2 ∨ 4 ≤ i ∧ i ≤ 10 ∨ 42 ≤ i ∧ i ≤ 44 ∨ i = 52) ∨ 94 ≤ a ∧ a ≤ 111) by omega) (KNA_F F17 (fun a i z => show ¬ (a = 1 ∨ 3 ≤ a ∧ a ≤ 5 ∨ 11 ≤ a ∧ a ≤ 16 ∨ 18 ≤ a ∧ a ≤ 48) by omega) jKNA))
  have j_105 := (NE_r F55.2.1 (NE_r F17.2.1 jNE))
  have j_106 := (W8_f (tg_540 F55) (W8_f (tg_541 F17) jW8))
  exact h M69 (u5) (u6) ⟨⟨⟨⟨⟨⟨⟨⟨⟨hG56, ⟨j_97, j_98, j_99, j_100⟩, ⟨p_58, p_59, p_60, p_61, p_62⟩, by omega, by omega⟩, j_101, j_102⟩, j_105, by omega⟩, AN_a j_103⟩, by omega⟩, j_106⟩, by omega⟩, j_103⟩, j_104, by omega, by omega⟩ (by omega) (by omega)
set_option maxRecDepth 4000 in
set_option maxHeartbeats 0 in
theorem LW_3 {X : mm_X} {d L : Nat} {M : mm_M} {Q : Option Value → mm_M → Prop} {i : Int32} {u5 u6 : Value} (hX : g_X X) (hW : g_W X) (hW2 : g_W2 X) (hL : (X 0).1 = L) (h3 : L ≤ 3072) (hd : 40 ≤ d) (hi : 0 ≤ i.toInt) (hi2 : i.toInt + 6 ≤ (L : Int)) (H : LI10 M) (h : ∀ (M1 : mm_M) (v5 v6 : Value), LI10 M1 → M1.1.2.1 ≤ M.1.2.1 + 1 → M1.1.2.2.1 ≤ M.1.2.2.1 + 6 → mm_T X d 0 1313 [.ref mm_ext, .ref 0, .ref 77, .ref 125, .int i, v5, v6] [] M1 Q) : mm_T X d 0 299 [.ref mm_ext, .ref 0, .ref 77, .ref 125, .int i, u5, u6] [] M Q := by
  obtain ⟨⟨⟨⟨⟨⟨⟨⟨⟨hG, ⟨jPI, jNI, jQI, jPQE⟩, ⟨jFA, jWC, jNJ, jPS, jKQ⟩, jJ, jE⟩, jTP, jW9⟩, jNE, jCC⟩, -⟩, jOV⟩, jW8⟩, jNN⟩, jAN⟩, jKNA, jDN, jPN⟩ := H
  have b_1 := g_b hG (a := 77) (i := 7) (lo := 0) (hi := 500) rfl rfl
  have b_2 := g_b hG (a := 77) (i := 6) (lo := 0) (hi := 500) rfl rfl
  have b_3 := g_b hG (a := 1) (i := 1) (lo := 0) (hi := 500) rfl rfl
  have b_4 := g_b hG (a := 77) (i := 1) (lo := 0) (hi := 500) rfl rfl
  have b_5 := g_b hG (a := 0) (i := 12) (lo := 0) (hi := 30) rfl rfl
  have b_6 := g_b hG (a := 77) (i := 28) (lo := 0) (hi := 30) rfl rfl
  have b_7 := g_b hG (a := 6) (i := 0) (lo := 0) (hi := 150) rfl rfl
  have b_8 := g_b hG (a := 77) (i := 29) (lo := 0) (hi := 150) rfl rfl
  have b_9 := g_b hG (a := 28) (i := 8) (lo := 0) (hi := 3000) rfl rfl
  have b_10 := g_b hG (a := 77) (i := 43) (lo := 0) (hi := 3000) rfl rfl
  refine to_an (pc := 299) rw_0_299 rfl (to_an (pc := 300) rw_0_300 rfl (to_i (pc := 301) rw_0_301 rfl (to_c (pc := 303) rw_0_303 (x := (1 : Int32)) rfl rfl (s_add (pc := 304) rw_0_304 (A := i.toInt) (B := 1) rfl rfl (by omega) (fun v11 e12 => s_x0 (pc := 305) rw_0_305 hL (A := v11.toInt) rfl (by omega) (by omega) (fun v13 e14 => s_v (pc := 306) rw_0_306 (dp0 hd (by decide)) (ls0 := [.ref 0, .int v13, .null]) rfl (Nat.le_of_ble_eq_true rfl) (Nat.le_of_ble_eq_true rfl) rfl (to_rc rfl rfl rfl (g_o hG rfl)) rfl ?_))))))
  obtain ⟨pz15, pzz15, qz15, qzz15, hpz15, hpzz15, hqz15, hqzz15, hpqz15⟩ := id jPQE
  have z_16 := KNA_u hpqz15 jKNA
  obtain ⟨sg, NN, nz, ca, hs1, hs2, hn1, hn2, hn3, hn4, hn5⟩ := AN_u jAN hpqz15
  obtain ⟨t, nn, hn1, hT1, hR1⟩ := TP_X (n := v13.toInt) jTP
  refine D_113 hX (dp1 hd (by decide)) hG hpz15 hpzz15 hqz15 hqzz15 hpqz15 jQI jPI jNI (by omega) hT1 hW hs1.1 z_16.1 (n := v13) (t := t) (nn := nn) (sg := sg) (p := pz15) (pz := pzz15) (q := qz15) (qz := qzz15) (fun r17 M29 hG19 F18 p_20 p_21 p_22 p_23 p_24 p_25 p_26 p_27 p_28 => ?_)
  have n_30 : M29.1.2.1 = M.1.2.1 ∧ M29.1.2.2.1 = M.1.2.2.1 := by rw [F18.1]; exact ⟨rfl, rfl⟩
  have b_32 := g_b hG19 (a := 1) (i := 1) (lo := 0) (hi := 500) rfl rfl
  have z_33 := TP_s jTP (by omega) (fun a i z => (Fx_n F18 (show ¬ (a = 1 ∨ 3 ≤ a ∧ a ≤ 5 ∨ 67 ≤ a ∧ a ≤ 76) by omega) rfl))
  have z_34 := AN_X F18 (fun a i z => show ¬ (a = 1 ∨ 3 ≤ a ∧ a ≤ 5 ∨ 67 ≤ a ∧ a ≤ 76) by omega) (QQ_8 hpqz15 p_23) jAN
  refine to_popi (pc := 309) rw_0_309 (to_an (pc := 310) rw_0_310 rfl (to_an (pc := 311) rw_0_311 rfl (to_i (pc := 312) rw_0_312 rfl (to_c (pc := 314) rw_0_314 (x := (1 : Int32)) rfl rfl (s_addk (pc := 315) rw_0_315 (A := i.toInt) (B := 1) rfl rfl (by omega) (v := v11) e12 (s_x0k (pc := 316) rw_0_316 hL (A := v11.toInt) rfl (by omega) (by omega) (v := v13) e14 (s_v (pc := 317) rw_0_317 (dp0 hd (by decide)) (ls0 := [.ref 77, .int v13, .null]) rfl (Nat.le_of_ble_eq_true rfl) (Nat.le_of_ble_eq_true rfl) rfl (to_rc rfl rfl rfl (g_o hG19 rfl)) rfl ?_)))))))
  have c_37 : M29.2.1 77 1 = (M.2.1 77 1) := (Fx_n F18 (show ¬ (77 = 1 ∨ 3 ≤ 77 ∧ 77 ≤ 5 ∨ 67 ≤ 77 ∧ 77 ≤ 76) by decide) rfl)
  have t_38 : (M29.2.1 77 1).toInt = (M.2.1 77 1).toInt := congrArg Int32.toInt c_37
  have c_39 : M29.2.1 77 58 = (M.2.1 77 58) := (Fx_n F18 (show ¬ (77 = 1 ∨ 3 ≤ 77 ∧ 77 ≤ 5 ∨ 67 ≤ 77 ∧ 77 ≤ 76) by decide) rfl)
  have b_40 := g_b hG (a := 77) (i := 58) (lo := 0) (hi := 40) rfl rfl
  have t_41 : (M29.2.1 77 58).toInt = (M.2.1 77 58).toInt := congrArg Int32.toInt c_39
  have c_42 : M29.2.1 77 7 = (M.2.1 77 7) := (Fx_n F18 (show ¬ (77 = 1 ∨ 3 ≤ 77 ∧ 77 ≤ 5 ∨ 67 ≤ 77 ∧ 77 ≤ 76) by decide) rfl)
  have t_43 : (M29.2.1 77 7).toInt = (M.2.1 77 7).toInt := congrArg Int32.toInt c_42
  have c_44 : M29.2.1 77 6 = (M.2.1 77 6) := (Fx_n F18 (show ¬ (77 = 1 ∨ 3 ≤ 77 ∧ 77 ≤ 5 ∨ 67 ≤ 77 ∧ 77 ≤ 76) by decide) rfl)
  have t_45 : (M29.2.1 77 6).toInt = (M.2.1 77 6).toInt := congrArg Int32.toInt c_44
  have j_46 := (FA_f (tg_542 F18) jFA)
  have j_47 := (WC_f (tg_543 F18) jWC)
  have j_48 := (NJ_f (tg_544 F18) jNJ)
  have j_49 := (PS_f (tg_545 F18) jPS)
  have j_50 := (KQ_f (tg_546 F18) jKQ)
  have j_51 := (TR_f (tg_547 F18) hR1)
  have j_52 := (W9_f (tg_548 F18) jW9)
  have j_53 := (PLk_f (tg_549 F18) hs2.1)
  refine D_227 hX (dp1 hd (by decide)) hG19 (by omega) j_46 j_47 j_48 j_49 j_50 (by omega) j_51 j_52 j_53 (n := v13) (t := t) (nn := nn) (sg := sg) (fun r54 M69 hG56 F55 p_57 p_58 p_59 p_60 p_61 p_62 p_63 p_64 p_65 p_66 p_67 p_68 => ?_)
  have n_70 : M69.1.2.1 = M29.1.2.1 ∧ M69.1.2.2.1 = M29.1.2.2.1 := by rw [F55.1]; exact ⟨rfl, rfl⟩
  have b_72 := g_b hG56 (a := 77) (i := 7) (lo := 0) (hi := 500) rfl rfl
  have b_73 := g_b hG56 (a := 77) (i := 6) (lo := 0) (hi := 500) rfl rfl
  have b_74 := g_b hG56 (a := 77) (i := 1) (lo := 0) (hi := 500) rfl rfl
  have b_75 := g_b hG56 (a := 77) (i := 58) (lo := 0) (hi := 40) rfl rfl
  have z_76 := QAN_q (h1 := (M.2.1 1 1).toInt) (h2 := (M29.2.1 77 1).toInt) (by omega) p_26 p_65 p_27 p_66
  have z_77 := KNA_q hqz15 hqzz15 z_16 z_76  p_28 (congrArg Int32.toInt (Fx_n F18 (show ¬ (77 = 1 ∨ 3 ≤ 77 ∧ 77 ≤ 5 ∨ 67 ≤ 77 ∧ 77 ≤ 76) by decide) rfl)) F55 (fun a i z => show ¬ (a = 77 ∧ (1 ≤ i ∧ i ≤ 2 ∨ 4 ≤ i ∧ i ≤ 10 ∨ 57 ≤ i ∧ i ≤ 59 ∨ 65 ≤ i ∧ i ≤ 69) ∨ 112 ≤ a ∧ a ≤ 116) by omega) p_67 p_68
  refine to_popi (pc := 320) rw_0_320 (to_go (pc := 321) rw_0_321 ?_)
  have c_78 : M69.2.1 1 1 = (M29.2.1 1 1) := (F_n F55 (show ¬ (1 = 77 ∧ (1 ≤ 1 ∧ 1 ≤ 2 ∨ 4 ≤ 1 ∧ 1 ≤ 10 ∨ 57 ≤ 1 ∧ 1 ≤ 59 ∨ 65 ≤ 1 ∧ 1 ≤ 69) ∨ 112 ≤ 1 ∧ 1 ≤ 116) by decide) rfl)
  have t_79 : (M69.2.1 1 1).toInt = (M29.2.1 1 1).toInt := congrArg Int32.toInt c_78
  have c_80 : M69.2.1 0 12 = (M.2.1 0 12) := (F_n F55 (show ¬ (0 = 77 ∧ (1 ≤ 12 ∧ 12 ≤ 2 ∨ 4 ≤ 12 ∧ 12 ≤ 10 ∨ 57 ≤ 12 ∧ 12 ≤ 59 ∨ 65 ≤ 12 ∧ 12 ≤ 69) ∨ 112 ≤ 0 ∧ 0 ≤ 116) by decide) (Fx_n F18 (show ¬ (0 = 1 ∨ 3 ≤ 0 ∧ 0 ≤ 5 ∨ 67 ≤ 0 ∧ 0 ≤ 76) by decide) rfl))
  have t_81 : (M69.2.1 0 12).toInt = (M.2.1 0 12).toInt := congrArg Int32.toInt c_80
  have c_82 : M69.2.1 77 28 = (M.2.1 77 28) := (F_n F55 (show ¬ (77 = 77 ∧ (1 ≤ 28 ∧ 28 ≤ 2 ∨ 4 ≤ 28 ∧ 28 ≤ 10 ∨ 57 ≤ 28 ∧ 28 ≤ 59 ∨ 65 ≤ 28 ∧ 28 ≤ 69) ∨ 112 ≤ 77 ∧ 77 ≤ 116) by decide) (Fx_n F18 (show ¬ (77 = 1 ∨ 3 ≤ 77 ∧ 77 ≤ 5 ∨ 67 ≤ 77 ∧ 77 ≤ 76) by decide) rfl))
  have t_83 : (M69.2.1 77 28).toInt = (M.2.1 77 28).toInt := congrArg Int32.toInt c_82
  have c_84 : M69.2.1 17 4 = (M.2.1 17 4) := (F_n F55 (show ¬ (17 = 77 ∧ (1 ≤ 4 ∧ 4 ≤ 2 ∨ 4 ≤ 4 ∧ 4 ≤ 10 ∨ 57 ≤ 4 ∧ 4 ≤ 59 ∨ 65 ≤ 4 ∧ 4 ≤ 69) ∨ 112 ≤ 17 ∧ 17 ≤ 116) by decide) (Fx_n F18 (show ¬ (17 = 1 ∨ 3 ≤ 17 ∧ 17 ≤ 5 ∨ 67 ≤ 17 ∧ 17 ≤ 76) by decide) rfl))
  have t_85 : (M69.2.1 17 4).toInt = (M.2.1 17 4).toInt := congrArg Int32.toInt c_84
  have c_86 : M69.2.1 77 41 = (M.2.1 77 41) := (F_n F55 (show ¬ (77 = 77 ∧ (1 ≤ 41 ∧ 41 ≤ 2 ∨ 4 ≤ 41 ∧ 41 ≤ 10 ∨ 57 ≤ 41 ∧ 41 ≤ 59 ∨ 65 ≤ 41 ∧ 41 ≤ 69) ∨ 112 ≤ 77 ∧ 77 ≤ 116) by decide) (Fx_n F18 (show ¬ (77 = 1 ∨ 3 ≤ 77 ∧ 77 ≤ 5 ∨ 67 ≤ 77 ∧ 77 ≤ 76) by decide) rfl))
  have t_87 : (M69.2.1 77 41).toInt = (M.2.1 77 41).toInt := congrArg Int32.toInt c_86
  have c_88 : M69.2.1 6 0 = (M.2.1 6 0) := (F_n F55 (show ¬ (6 = 77 ∧ (1 ≤ 0 ∧ 0 ≤ 2 ∨ 4 ≤ 0 ∧ 0 ≤ 10 ∨ 57 ≤ 0 ∧ 0 ≤ 59 ∨ 65 ≤ 0 ∧ 0 ≤ 69) ∨ 112 ≤ 6 ∧ 6 ≤ 116) by decide) (Fx_n F18 (show ¬ (6 = 1 ∨ 3 ≤ 6 ∧ 6 ≤ 5 ∨ 67 ≤ 6 ∧ 6 ≤ 76) by decide) rfl))
  have t_89 : (M69.2.1 6 0).toInt = (M.2.1 6 0).toInt := congrArg Int32.toInt c_88
  have c_90 : M69.2.1 77 29 = (M.2.1 77 29) := (F_n F55 (show ¬ (77 = 77 ∧ (1 ≤ 29 ∧ 29 ≤ 2 ∨ 4 ≤ 29 ∧ 29 ≤ 10 ∨ 57 ≤ 29 ∧ 29 ≤ 59 ∨ 65 ≤ 29 ∧ 29 ≤ 69) ∨ 112 ≤ 77 ∧ 77 ≤ 116) by decide) (Fx_n F18 (show ¬ (77 = 1 ∨ 3 ≤ 77 ∧ 77 ≤ 5 ∨ 67 ≤ 77 ∧ 77 ≤ 76) by decide) rfl))
  have t_91 : (M69.2.1 77 29).toInt = (M.2.1 77 29).toInt := congrArg Int32.toInt c_90
  have c_92 : M69.2.1 28 8 = (M.2.1 28 8) := (F_n F55 (show ¬ (28 = 77 ∧ (1 ≤ 8 ∧ 8 ≤ 2 ∨ 4 ≤ 8 ∧ 8 ≤ 10 ∨ 57 ≤ 8 ∧ 8 ≤ 59 ∨ 65 ≤ 8 ∧ 8 ≤ 69) ∨ 112 ≤ 28 ∧ 28 ≤ 116) by decide) (Fx_n F18 (show ¬ (28 = 1 ∨ 3 ≤ 28 ∧ 28 ≤ 5 ∨ 67 ≤ 28 ∧ 28 ≤ 76) by decide) rfl))
  have t_93 : (M69.2.1 28 8).toInt = (M.2.1 28 8).toInt := congrArg Int32.toInt c_92
  have c_94 : M69.2.1 77 43 = (M.2.1 77 43) := (F_n F55 (show ¬ (77 = 77 ∧ (1 ≤ 43 ∧ 43 ≤ 2 ∨ 4 ≤ 43 ∧ 43 ≤ 10 ∨ 57 ≤ 43 ∧ 43 ≤ 59 ∨ 65 ≤ 43 ∧ 43 ≤ 69) ∨ 112 ≤ 77 ∧ 77 ≤ 116) by decide) (Fx_n F18 (show ¬ (77 = 1 ∨ 3 ≤ 77 ∧ 77 ≤ 5 ∨ 67 ≤ 77 ∧ 77 ≤ 76) by decide) rfl))
  have t_95 : (M69.2.1 77 43).toInt = (M.2.1 77 43).toInt := congrArg Int32.toInt c_94
  have c_96 : M69.2.1 28 9 = (M.2.1 28 9) := (F_n F55 (show ¬ (28 = 77 ∧ (1 ≤ 9 ∧ 9 ≤ 2 ∨ 4 ≤ 9 ∧ 9 ≤ 10 ∨ 57 ≤ 9 ∧ 9 ≤ 59 ∨ 65 ≤ 9 ∧ 9 ≤ 69) ∨ 112 ≤ 28 ∧ 28 ≤ 116) by decide) (Fx_n F18 (show ¬ (28 = 1 ∨ 3 ≤ 28 ∧ 28 ≤ 5 ∨ 67 ≤ 28 ∧ 28 ≤ 76) by decide) rfl))
  have t_97 : (M69.2.1 28 9).toInt = (M.2.1 28 9).toInt := congrArg Int32.toInt c_96
  have c_98 : M69.2.1 77 42 = (M.2.1 77 42) := (F_n F55 (show ¬ (77 = 77 ∧ (1 ≤ 42 ∧ 42 ≤ 2 ∨ 4 ≤ 42 ∧ 42 ≤ 10 ∨ 57 ≤ 42 ∧ 42 ≤ 59 ∨ 65 ≤ 42 ∧ 42 ≤ 69) ∨ 112 ≤ 77 ∧ 77 ≤ 116) by decide) (Fx_n F18 (show ¬ (77 = 1 ∨ 3 ≤ 77 ∧ 77 ≤ 5 ∨ 67 ≤ 77 ∧ 77 ≤ 76) by decide) rfl))
  have t_99 : (M69.2.1 77 42).toInt = (M.2.1 77 42).toInt := congrArg Int32.toInt c_98
  have j_100 := (PI_f (tg_550 F55) p_24)
  have j_101 := (NI_f (tg_551 F55) p_25)
  have j_102 := (QI_f (tg_552 F55) p_22)
  have j_103 := (PQE_r F55.2.1 (PQE_qq hpz15 hpzz15 hqz15 hqzz15 p_23))
  have j_104 := (TP_f (tg_553 F55) z_33)
  have j_105 := (W9_f (tg_554 F55) j_52)
  have j_106 := (AN_F F55 tg_632 z_34)
  have j_107 := (NE_r F55.2.1 (NE_q hpqz15 p_23 jNE))
  have j_108 := (W8_f (tg_555 F55) (W8_f (tg_556 F18) jW8))
  exact h M69 (u5) (u6) ⟨⟨⟨⟨⟨⟨⟨⟨⟨hG56, ⟨j_100, j_101, j_102, j_103⟩, ⟨p_58, p_59, p_60, p_61, p_62⟩, by omega, by omega⟩, j_104, j_105⟩, j_107, by omega⟩, AN_a j_106⟩, by omega⟩, j_108⟩, by omega⟩, j_106⟩, z_77, by omega, by omega⟩ (by omega) (by omega)
set_option maxRecDepth 4000 in
set_option maxHeartbeats 0 in
theorem LW_4 {X : mm_X} {d L : Nat} {M : mm_M} {Q : Option Value → mm_M → Prop} {i : Int32} {u5 u6 : Value} (hX : g_X X) (hW : g_W X) (hW2 : g_W2 X) (hL : (X 0).1 = L) (h3 : L ≤ 3072) (hd : 40 ≤ d) (hi : 0 ≤ i.toInt) (hi2 : i.toInt + 6 ≤ (L : Int)) (H : LI10 M) (h : ∀ (M1 : mm_M) (v5 v6 : Value), LI10 M1 → M1.1.2.1 ≤ M.1.2.1 + 1 → M1.1.2.2.1 ≤ M.1.2.2.1 + 6 → mm_T X d 0 1313 [.ref mm_ext, .ref 0, .ref 77, .ref 125, .int i, v5, v6] [] M1 Q) : mm_T X d 0 324 [.ref mm_ext, .ref 0, .ref 77, .ref 125, .int i, u5, u6] [] M Q := by
  obtain ⟨⟨⟨⟨⟨⟨⟨⟨⟨hG, ⟨jPI, jNI, jQI, jPQE⟩, ⟨jFA, jWC, jNJ, jPS, jKQ⟩, jJ, jE⟩, jTP, jW9⟩, jNE, jCC⟩, -⟩, jOV⟩, jW8⟩, jNN⟩, jAN⟩, jKNA, jDN, jPN⟩ := H
  have b_1 := g_b hG (a := 77) (i := 7) (lo := 0) (hi := 500) rfl rfl
  have b_2 := g_b hG (a := 77) (i := 6) (lo := 0) (hi := 500) rfl rfl
  have b_3 := g_b hG (a := 1) (i := 1) (lo := 0) (hi := 500) rfl rfl
  have b_4 := g_b hG (a := 77) (i := 1) (lo := 0) (hi := 500) rfl rfl
  have b_5 := g_b hG (a := 0) (i := 12) (lo := 0) (hi := 30) rfl rfl
  have b_6 := g_b hG (a := 77) (i := 28) (lo := 0) (hi := 30) rfl rfl
  have b_7 := g_b hG (a := 6) (i := 0) (lo := 0) (hi := 150) rfl rfl
  have b_8 := g_b hG (a := 77) (i := 29) (lo := 0) (hi := 150) rfl rfl
  have b_9 := g_b hG (a := 28) (i := 8) (lo := 0) (hi := 3000) rfl rfl
  have b_10 := g_b hG (a := 77) (i := 43) (lo := 0) (hi := 3000) rfl rfl
  refine to_an (pc := 324) rw_0_324 rfl (to_an (pc := 325) rw_0_325 rfl (to_i (pc := 326) rw_0_326 rfl (to_c (pc := 328) rw_0_328 (x := (1 : Int32)) rfl rfl (s_add (pc := 329) rw_0_329 (A := i.toInt) (B := 1) rfl rfl (by omega) (fun v11 e12 => s_x0 (pc := 330) rw_0_330 hL (A := v11.toInt) rfl (by omega) (by omega) (fun v13 e14 => s_v (pc := 331) rw_0_331 (dp0 hd (by decide)) (ls0 := [.ref 0, .int v13]) rfl (Nat.le_of_ble_eq_true rfl) (Nat.le_of_ble_eq_true rfl) rfl (to_rc rfl rfl rfl (g_o hG rfl)) rfl ?_))))))
  obtain ⟨pz15, pzz15, qz15, qzz15, hpz15, hpzz15, hqz15, hqzz15, hpqz15⟩ := id jPQE
  refine C_114 hX (dp1 hd (by decide)) hG hpz15 hpzz15 hqz15 hqzz15 hpqz15 (w := v13) (p := pz15) (pz := pzz15) (q := qz15) (qz := qzz15) (fun r16 M19 hG18 F17 => ?_)
  have n_20 : M19.1.2.1 = M.1.2.1 ∧ M19.1.2.2.1 = M.1.2.2.1 := by rw [F17.1]; exact ⟨rfl, rfl⟩
  refine to_popi (pc := 334) rw_0_334 (to_an (pc := 335) rw_0_335 rfl (to_an (pc := 336) rw_0_336 rfl (to_i (pc := 337) rw_0_337 rfl (to_c (pc := 339) rw_0_339 (x := (1 : Int32)) rfl rfl (s_addk (pc := 340) rw_0_340 (A := i.toInt) (B := 1) rfl rfl (by omega) (v := v11) e12 (s_x0k (pc := 341) rw_0_341 hL (A := v11.toInt) rfl (by omega) (by omega) (v := v13) e14 (s_v (pc := 342) rw_0_342 (dp0 hd (by decide)) (ls0 := [.ref 77, .int v13]) rfl (Nat.le_of_ble_eq_true rfl) (Nat.le_of_ble_eq_true rfl) rfl (to_rc rfl rfl rfl (g_o hG18 rfl)) rfl (C_174 hX (dp1 hd (by decide)) hG18 (w := v13) (fun r24 M27 hG26 F25 => ?_)))))))))
  have n_28 : M27.1.2.1 = M19.1.2.1 ∧ M27.1.2.2.1 = M19.1.2.2.1 := by rw [F25.1]; exact ⟨rfl, rfl⟩
  refine to_popi (pc := 345) rw_0_345 (to_go (pc := 346) rw_0_346 ?_)
  have c_30 : M27.2.1 77 7 = (M.2.1 77 7) := (F_n F25 (show ¬ (77 = 77 ∧ 7 = 2) by decide) (F_n F17 (show ¬ (77 < 0) by decide) rfl))
  have t_31 : (M27.2.1 77 7).toInt = (M.2.1 77 7).toInt := congrArg Int32.toInt c_30
  have c_32 : M27.2.1 77 6 = (M.2.1 77 6) := (F_n F25 (show ¬ (77 = 77 ∧ 6 = 2) by decide) (F_n F17 (show ¬ (77 < 0) by decide) rfl))
  have t_33 : (M27.2.1 77 6).toInt = (M.2.1 77 6).toInt := congrArg Int32.toInt c_32
  have c_34 : M27.2.1 1 1 = (M.2.1 1 1) := (F_n F25 (show ¬ (1 = 77 ∧ 1 = 2) by decide) (F_n F17 (show ¬ (1 < 0) by decide) rfl))
  have t_35 : (M27.2.1 1 1).toInt = (M.2.1 1 1).toInt := congrArg Int32.toInt c_34
  have c_36 : M27.2.1 77 1 = (M.2.1 77 1) := (F_n F25 (show ¬ (77 = 77 ∧ 1 = 2) by decide) (F_n F17 (show ¬ (77 < 0) by decide) rfl))
  have t_37 : (M27.2.1 77 1).toInt = (M.2.1 77 1).toInt := congrArg Int32.toInt c_36
  have c_38 : M27.2.1 0 12 = (M.2.1 0 12) := (F_n F25 (show ¬ (0 = 77 ∧ 12 = 2) by decide) (F_n F17 (show ¬ (0 < 0) by decide) rfl))
  have t_39 : (M27.2.1 0 12).toInt = (M.2.1 0 12).toInt := congrArg Int32.toInt c_38
  have c_40 : M27.2.1 77 28 = (M.2.1 77 28) := (F_n F25 (show ¬ (77 = 77 ∧ 28 = 2) by decide) (F_n F17 (show ¬ (77 < 0) by decide) rfl))
  have t_41 : (M27.2.1 77 28).toInt = (M.2.1 77 28).toInt := congrArg Int32.toInt c_40
  have c_42 : M27.2.1 17 4 = (M.2.1 17 4) := (F_n F25 (show ¬ (17 = 77 ∧ 4 = 2) by decide) (F_n F17 (show ¬ (17 < 0) by decide) rfl))
  have t_43 : (M27.2.1 17 4).toInt = (M.2.1 17 4).toInt := congrArg Int32.toInt c_42
  have c_44 : M27.2.1 77 41 = (M.2.1 77 41) := (F_n F25 (show ¬ (77 = 77 ∧ 41 = 2) by decide) (F_n F17 (show ¬ (77 < 0) by decide) rfl))
  have t_45 : (M27.2.1 77 41).toInt = (M.2.1 77 41).toInt := congrArg Int32.toInt c_44
  have c_46 : M27.2.1 6 0 = (M.2.1 6 0) := (F_n F25 (show ¬ (6 = 77 ∧ 0 = 2) by decide) (F_n F17 (show ¬ (6 < 0) by decide) rfl))
  have t_47 : (M27.2.1 6 0).toInt = (M.2.1 6 0).toInt := congrArg Int32.toInt c_46
  have c_48 : M27.2.1 77 29 = (M.2.1 77 29) := (F_n F25 (show ¬ (77 = 77 ∧ 29 = 2) by decide) (F_n F17 (show ¬ (77 < 0) by decide) rfl))
  have t_49 : (M27.2.1 77 29).toInt = (M.2.1 77 29).toInt := congrArg Int32.toInt c_48
  have c_50 : M27.2.1 28 8 = (M.2.1 28 8) := (F_n F25 (show ¬ (28 = 77 ∧ 8 = 2) by decide) (F_n F17 (show ¬ (28 < 0) by decide) rfl))
  have t_51 : (M27.2.1 28 8).toInt = (M.2.1 28 8).toInt := congrArg Int32.toInt c_50
  have c_52 : M27.2.1 77 43 = (M.2.1 77 43) := (F_n F25 (show ¬ (77 = 77 ∧ 43 = 2) by decide) (F_n F17 (show ¬ (77 < 0) by decide) rfl))
  have t_53 : (M27.2.1 77 43).toInt = (M.2.1 77 43).toInt := congrArg Int32.toInt c_52
  have c_54 : M27.2.1 28 9 = (M.2.1 28 9) := (F_n F25 (show ¬ (28 = 77 ∧ 9 = 2) by decide) (F_n F17 (show ¬ (28 < 0) by decide) rfl))
  have t_55 : (M27.2.1 28 9).toInt = (M.2.1 28 9).toInt := congrArg Int32.toInt c_54
  have c_56 : M27.2.1 77 42 = (M.2.1 77 42) := (F_n F25 (show ¬ (77 = 77 ∧ 42 = 2) by decide) (F_n F17 (show ¬ (77 < 0) by decide) rfl))
  have t_57 : (M27.2.1 77 42).toInt = (M.2.1 77 42).toInt := congrArg Int32.toInt c_56
  have j_58 := (PI_f (tg_557 F25) (PI_f (tg_99 F17) jPI))
  have j_59 := (NI_f (tg_558 F25) (NI_f (tg_98 F17) jNI))
  have j_60 := (QI_f (tg_559 F25) (QI_f (tg_100 F17) jQI))
  have j_61 := (PQE_r F25.2.1 (PQE_r F17.2.1 jPQE))
  have j_62 := (FA_f (tg_560 F25) (FA_f (tg_299 F17) jFA))
  have j_63 := (WC_f (tg_561 F25) (WC_f (tg_562 F17) jWC))
  have j_64 := (NJ_f (tg_563 F25) (NJ_f (tg_102 F17) jNJ))
  have j_65 := (PS_f (tg_564 F25) (PS_f (tg_565 F17) jPS))
  have j_66 := (KQ_f (tg_566 F25) (KQ_f (tg_416 F17) jKQ))
  have j_67 := (TP_f (tg_567 F25) (TP_f (tg_568 F17) jTP))
  have j_68 := (W9_f (tg_569 F25) (W9_f (tg_46 F17) jW9))
  have j_69 := (AN_F F25 tg_633 (AN_F F17 tg_634 jAN))
  have j_70 := (KNA_F F25 (fun a i z => show ¬ (a = 77 ∧ i = 2) by omega) (KNA_F F17 (fun a i z => show ¬ (a < 0) by omega) jKNA))
  have j_71 := (NE_r F25.2.1 (NE_r F17.2.1 jNE))
  have j_72 := (W8_f (tg_570 F25) (W8_f (tg_571 F17) jW8))
  exact h M27 (u5) (u6) ⟨⟨⟨⟨⟨⟨⟨⟨⟨hG26, ⟨j_58, j_59, j_60, j_61⟩, ⟨j_62, j_63, j_64, j_65, j_66⟩, by omega, by omega⟩, j_67, j_68⟩, j_71, by omega⟩, AN_a j_69⟩, by omega⟩, j_72⟩, by omega⟩, j_69⟩, j_70, by omega, by omega⟩ (by omega) (by omega)
set_option maxRecDepth 4000 in
set_option maxHeartbeats 0 in
theorem LW_5 {X : mm_X} {d L : Nat} {M : mm_M} {Q : Option Value → mm_M → Prop} {i : Int32} {u5 u6 : Value} (hX : g_X X) (hW : g_W X) (hW2 : g_W2 X) (hL : (X 0).1 = L) (h3 : L ≤ 3072) (hd : 40 ≤ d) (hi : 0 ≤ i.toInt) (hi2 : i.toInt + 6 ≤ (L : Int)) (H : LI10 M) (h : ∀ (M1 : mm_M) (v5 v6 : Value), LI10 M1 → M1.1.2.1 ≤ M.1.2.1 + 1 → M1.1.2.2.1 ≤ M.1.2.2.1 + 6 → mm_T X d 0 1313 [.ref mm_ext, .ref 0, .ref 77, .ref 125, .int i, v5, v6] [] M1 Q) : mm_T X d 0 349 [.ref mm_ext, .ref 0, .ref 77, .ref 125, .int i, u5, u6] [] M Q := by
  obtain ⟨⟨⟨⟨⟨⟨⟨⟨⟨hG, ⟨jPI, jNI, jQI, jPQE⟩, ⟨jFA, jWC, jNJ, jPS, jKQ⟩, jJ, jE⟩, jTP, jW9⟩, jNE, jCC⟩, -⟩, jOV⟩, jW8⟩, jNN⟩, jAN⟩, jKNA, jDN, jPN⟩ := H
  have b_1 := g_b hG (a := 77) (i := 7) (lo := 0) (hi := 500) rfl rfl
  have b_2 := g_b hG (a := 77) (i := 6) (lo := 0) (hi := 500) rfl rfl
  have b_3 := g_b hG (a := 1) (i := 1) (lo := 0) (hi := 500) rfl rfl
  have b_4 := g_b hG (a := 77) (i := 1) (lo := 0) (hi := 500) rfl rfl
  have b_5 := g_b hG (a := 0) (i := 12) (lo := 0) (hi := 30) rfl rfl
  have b_6 := g_b hG (a := 77) (i := 28) (lo := 0) (hi := 30) rfl rfl
  have b_7 := g_b hG (a := 6) (i := 0) (lo := 0) (hi := 150) rfl rfl
  have b_8 := g_b hG (a := 77) (i := 29) (lo := 0) (hi := 150) rfl rfl
  have b_9 := g_b hG (a := 28) (i := 8) (lo := 0) (hi := 3000) rfl rfl
  have b_10 := g_b hG (a := 77) (i := 43) (lo := 0) (hi := 3000) rfl rfl
  refine to_an (pc := 349) rw_0_349 rfl (to_an (pc := 350) rw_0_350 rfl (to_i (pc := 351) rw_0_351 rfl (to_c (pc := 353) rw_0_353 (x := (1 : Int32)) rfl rfl (s_add (pc := 354) rw_0_354 (A := i.toInt) (B := 1) rfl rfl (by omega) (fun v11 e12 => s_x0 (pc := 355) rw_0_355 hL (A := v11.toInt) rfl (by omega) (by omega) (fun v13 e14 => to_an (pc := 356) rw_0_356 rfl (to_i (pc := 357) rw_0_357 rfl (to_c (pc := 359) rw_0_359 (x := (2 : Int32)) rfl rfl (s_add (pc := 360) rw_0_360 (A := i.toInt) (B := 2) rfl rfl (by omega) (fun v15 e16 => s_x0 (pc := 361) rw_0_361 hL (A := v15.toInt) rfl (by omega) (by omega) (fun v17 e18 => s_v (pc := 362) rw_0_362 (dp0 hd (by decide)) (ls0 := [.ref 0, .int v13, .int v17]) rfl (Nat.le_of_ble_eq_true rfl) (Nat.le_of_ble_eq_true rfl) rfl (to_rc rfl rfl rfl (g_o hG rfl)) rfl ?_)))))))))))
  obtain ⟨pz19, pzz19, qz19, qzz19, hpz19, hpzz19, hqz19, hqzz19, hpqz19⟩ := id jPQE
  obtain ⟨sg, NN, nz, ca, hs1, hs2, hn1, hn2, hn3, hn4, hn5⟩ := AN_u jAN hpqz19
  refine E_115 hX (dp1 hd (by decide)) hG hpz19 hpzz19 hqz19 hqzz19 hpqz19 hs1.1 (w := v13) (l := v17) (sg := sg) (p := pz19) (pz := pzz19) (q := qz19) (qz := qzz19) (fun r20 M26 hG22 F21 p_23 p_24 p_25 => ?_)
  have n_27 : M26.1.2.1 = M.1.2.1 ∧ M26.1.2.2.1 = M.1.2.2.1 := by rw [F21.1]; exact ⟨rfl, rfl⟩
  refine to_popi (pc := 365) rw_0_365 (to_an (pc := 366) rw_0_366 rfl (to_an (pc := 367) rw_0_367 rfl (to_i (pc := 368) rw_0_368 rfl (to_c (pc := 370) rw_0_370 (x := (1 : Int32)) rfl rfl (s_addk (pc := 371) rw_0_371 (A := i.toInt) (B := 1) rfl rfl (by omega) (v := v11) e12 (s_x0k (pc := 372) rw_0_372 hL (A := v11.toInt) rfl (by omega) (by omega) (v := v13) e14 (to_an (pc := 373) rw_0_373 rfl (to_i (pc := 374) rw_0_374 rfl (to_c (pc := 376) rw_0_376 (x := (2 : Int32)) rfl rfl (s_addk (pc := 377) rw_0_377 (A := i.toInt) (B := 2) rfl rfl (by omega) (v := v15) e16 (s_x0k (pc := 378) rw_0_378 hL (A := v15.toInt) rfl (by omega) (by omega) (v := v17) e18 ?_)))))))))))
  refine s_v (pc := 379) rw_0_379 (dp0 hd (by decide)) (ls0 := [.ref 77, .int v13, .int v17]) rfl (Nat.le_of_ble_eq_true rfl) (Nat.le_of_ble_eq_true rfl) rfl (to_rc rfl rfl rfl (g_o hG22 rfl)) rfl ?_
  have j_33 := (PLk_f (tg_101 F21) hs2.1)
  refine E_177 hX (dp1 hd (by decide)) hG22 j_33 (w := v13) (l := v17) (sg := sg) (fun r34 M40 hG36 F35 p_37 p_38 p_39 => ?_)
  have n_41 : M40.1.2.1 = M26.1.2.1 ∧ M40.1.2.2.1 = M26.1.2.2.1 := by rw [F35.1]; exact ⟨rfl, rfl⟩
  refine to_popi (pc := 382) rw_0_382 (to_go (pc := 383) rw_0_383 ?_)
  have c_43 : M40.2.1 77 7 = (M.2.1 77 7) := (F_n F35 (show ¬ (77 = 77 ∧ 7 = 2) by decide) (F_n F21 (show ¬ (77 < 0) by decide) rfl))
  have t_44 : (M40.2.1 77 7).toInt = (M.2.1 77 7).toInt := congrArg Int32.toInt c_43
  have c_45 : M40.2.1 77 6 = (M.2.1 77 6) := (F_n F35 (show ¬ (77 = 77 ∧ 6 = 2) by decide) (F_n F21 (show ¬ (77 < 0) by decide) rfl))
  have t_46 : (M40.2.1 77 6).toInt = (M.2.1 77 6).toInt := congrArg Int32.toInt c_45
  have c_47 : M40.2.1 1 1 = (M.2.1 1 1) := (F_n F35 (show ¬ (1 = 77 ∧ 1 = 2) by decide) (F_n F21 (show ¬ (1 < 0) by decide) rfl))
  have t_48 : (M40.2.1 1 1).toInt = (M.2.1 1 1).toInt := congrArg Int32.toInt c_47
  have c_49 : M40.2.1 77 1 = (M.2.1 77 1) := (F_n F35 (show ¬ (77 = 77 ∧ 1 = 2) by decide) (F_n F21 (show ¬ (77 < 0) by decide) rfl))
  have t_50 : (M40.2.1 77 1).toInt = (M.2.1 77 1).toInt := congrArg Int32.toInt c_49
  have c_51 : M40.2.1 0 12 = (M.2.1 0 12) := (F_n F35 (show ¬ (0 = 77 ∧ 12 = 2) by decide) (F_n F21 (show ¬ (0 < 0) by decide) rfl))
  have t_52 : (M40.2.1 0 12).toInt = (M.2.1 0 12).toInt := congrArg Int32.toInt c_51
  have c_53 : M40.2.1 77 28 = (M.2.1 77 28) := (F_n F35 (show ¬ (77 = 77 ∧ 28 = 2) by decide) (F_n F21 (show ¬ (77 < 0) by decide) rfl))
  have t_54 : (M40.2.1 77 28).toInt = (M.2.1 77 28).toInt := congrArg Int32.toInt c_53
  have c_55 : M40.2.1 17 4 = (M.2.1 17 4) := (F_n F35 (show ¬ (17 = 77 ∧ 4 = 2) by decide) (F_n F21 (show ¬ (17 < 0) by decide) rfl))
  have t_56 : (M40.2.1 17 4).toInt = (M.2.1 17 4).toInt := congrArg Int32.toInt c_55
  have c_57 : M40.2.1 77 41 = (M.2.1 77 41) := (F_n F35 (show ¬ (77 = 77 ∧ 41 = 2) by decide) (F_n F21 (show ¬ (77 < 0) by decide) rfl))
  have t_58 : (M40.2.1 77 41).toInt = (M.2.1 77 41).toInt := congrArg Int32.toInt c_57
  have c_59 : M40.2.1 6 0 = (M.2.1 6 0) := (F_n F35 (show ¬ (6 = 77 ∧ 0 = 2) by decide) (F_n F21 (show ¬ (6 < 0) by decide) rfl))
  have t_60 : (M40.2.1 6 0).toInt = (M.2.1 6 0).toInt := congrArg Int32.toInt c_59
  have c_61 : M40.2.1 77 29 = (M.2.1 77 29) := (F_n F35 (show ¬ (77 = 77 ∧ 29 = 2) by decide) (F_n F21 (show ¬ (77 < 0) by decide) rfl))
  have t_62 : (M40.2.1 77 29).toInt = (M.2.1 77 29).toInt := congrArg Int32.toInt c_61
  have c_63 : M40.2.1 28 8 = (M.2.1 28 8) := (F_n F35 (show ¬ (28 = 77 ∧ 8 = 2) by decide) (F_n F21 (show ¬ (28 < 0) by decide) rfl))
  have t_64 : (M40.2.1 28 8).toInt = (M.2.1 28 8).toInt := congrArg Int32.toInt c_63
  have c_65 : M40.2.1 77 43 = (M.2.1 77 43) := (F_n F35 (show ¬ (77 = 77 ∧ 43 = 2) by decide) (F_n F21 (show ¬ (77 < 0) by decide) rfl))
  have t_66 : (M40.2.1 77 43).toInt = (M.2.1 77 43).toInt := congrArg Int32.toInt c_65
  have c_67 : M40.2.1 28 9 = (M.2.1 28 9) := (F_n F35 (show ¬ (28 = 77 ∧ 9 = 2) by decide) (F_n F21 (show ¬ (28 < 0) by decide) rfl))
  have t_68 : (M40.2.1 28 9).toInt = (M.2.1 28 9).toInt := congrArg Int32.toInt c_67
  have c_69 : M40.2.1 77 42 = (M.2.1 77 42) := (F_n F35 (show ¬ (77 = 77 ∧ 42 = 2) by decide) (F_n F21 (show ¬ (77 < 0) by decide) rfl))
  have t_70 : (M40.2.1 77 42).toInt = (M.2.1 77 42).toInt := congrArg Int32.toInt c_69
  have j_71 := (PI_f (tg_557 F35) (PI_f (tg_99 F21) jPI))
  have j_72 := (NI_f (tg_558 F35) (NI_f (tg_98 F21) jNI))
  have j_73 := (QI_f (tg_559 F35) (QI_f (tg_100 F21) jQI))
  have j_74 := (PQE_r F35.2.1 (PQE_r F21.2.1 jPQE))
  have j_75 := (FA_f (tg_560 F35) (FA_f (tg_299 F21) jFA))
  have j_76 := (WC_f (tg_561 F35) (WC_f (tg_562 F21) jWC))
  have j_77 := (NJ_f (tg_563 F35) (NJ_f (tg_102 F21) jNJ))
  have j_78 := (PS_f (tg_564 F35) (PS_f (tg_565 F21) jPS))
  have j_79 := (KQ_f (tg_566 F35) (KQ_f (tg_416 F21) jKQ))
  have j_80 := (TP_f (tg_567 F35) (TP_f (tg_568 F21) jTP))
  have j_81 := (W9_f (tg_569 F35) (W9_f (tg_46 F21) jW9))
  have j_82 := (AN_F F35 tg_633 (AN_F F21 tg_634 jAN))
  have j_83 := (KNA_F F35 (fun a i z => show ¬ (a = 77 ∧ i = 2) by omega) (KNA_F F21 (fun a i z => show ¬ (a < 0) by omega) jKNA))
  have j_84 := (NE_r F35.2.1 (NE_r F21.2.1 jNE))
  have j_85 := (W8_f (tg_570 F35) (W8_f (tg_571 F21) jW8))
  exact h M40 (u5) (u6) ⟨⟨⟨⟨⟨⟨⟨⟨⟨hG36, ⟨j_71, j_72, j_73, j_74⟩, ⟨j_75, j_76, j_77, j_78, j_79⟩, by omega, by omega⟩, j_80, j_81⟩, j_84, by omega⟩, AN_a j_82⟩, by omega⟩, j_85⟩, by omega⟩, j_82⟩, j_83, by omega, by omega⟩ (by omega) (by omega)
set_option maxRecDepth 4000 in
set_option maxHeartbeats 0 in
theorem LW_6 {X : mm_X} {d L : Nat} {M : mm_M} {Q : Option Value → mm_M → Prop} {i : Int32} {u5 u6 : Value} (hX : g_X X) (hW : g_W X) (hW2 : g_W2 X) (hL : (X 0).1 = L) (h3 : L ≤ 3072) (hd : 40 ≤ d) (hi : 0 ≤ i.toInt) (hi2 : i.toInt + 6 ≤ (L : Int)) (H : LI10 M) (h : ∀ (M1 : mm_M) (v5 v6 : Value), LI10 M1 → M1.1.2.1 ≤ M.1.2.1 + 1 → M1.1.2.2.1 ≤ M.1.2.2.1 + 6 → mm_T X d 0 1313 [.ref mm_ext, .ref 0, .ref 77, .ref 125, .int i, v5, v6] [] M1 Q) : mm_T X d 0 386 [.ref mm_ext, .ref 0, .ref 77, .ref 125, .int i, u5, u6] [] M Q := by
  obtain ⟨⟨⟨⟨⟨⟨⟨⟨⟨hG, ⟨jPI, jNI, jQI, jPQE⟩, ⟨jFA, jWC, jNJ, jPS, jKQ⟩, jJ, jE⟩, jTP, jW9⟩, jNE, jCC⟩, -⟩, jOV⟩, jW8⟩, jNN⟩, jAN⟩, jKNA, jDN, jPN⟩ := H
  have b_1 := g_b hG (a := 77) (i := 7) (lo := 0) (hi := 500) rfl rfl
  have b_2 := g_b hG (a := 77) (i := 6) (lo := 0) (hi := 500) rfl rfl
  have b_3 := g_b hG (a := 1) (i := 1) (lo := 0) (hi := 500) rfl rfl
  have b_4 := g_b hG (a := 77) (i := 1) (lo := 0) (hi := 500) rfl rfl
  have b_5 := g_b hG (a := 0) (i := 12) (lo := 0) (hi := 30) rfl rfl
  have b_6 := g_b hG (a := 77) (i := 28) (lo := 0) (hi := 30) rfl rfl
  have b_7 := g_b hG (a := 6) (i := 0) (lo := 0) (hi := 150) rfl rfl
  have b_8 := g_b hG (a := 77) (i := 29) (lo := 0) (hi := 150) rfl rfl
  have b_9 := g_b hG (a := 28) (i := 8) (lo := 0) (hi := 3000) rfl rfl
  have b_10 := g_b hG (a := 77) (i := 43) (lo := 0) (hi := 3000) rfl rfl
  refine to_an (pc := 386) rw_0_386 rfl (to_an (pc := 387) rw_0_387 rfl (to_i (pc := 388) rw_0_388 rfl (to_c (pc := 390) rw_0_390 (x := (1 : Int32)) rfl rfl (s_add (pc := 391) rw_0_391 (A := i.toInt) (B := 1) rfl rfl (by omega) (fun v11 e12 => s_x0 (pc := 392) rw_0_392 hL (A := v11.toInt) rfl (by omega) (by omega) (fun v13 e14 => to_an (pc := 393) rw_0_393 rfl (to_i (pc := 394) rw_0_394 rfl (to_c (pc := 396) rw_0_396 (x := (2 : Int32)) rfl rfl (s_add (pc := 397) rw_0_397 (A := i.toInt) (B := 2) rfl rfl (by omega) (fun v15 e16 => s_x0 (pc := 398) rw_0_398 hL (A := v15.toInt) rfl (by omega) (by omega) (fun v17 e18 => to_an (pc := 399) rw_0_399 rfl ?_)))))))))))
  obtain ⟨sg, hs1, hs2⟩ := (AN_a jAN)
  refine s_lkE (pc := 400) rw_0_400 (by omega) rfl hG hs1 (fun r19 M24 hG20 K21 K22 K23 n_a n_b lk_1 lk_2 lk_4 lk_3 => to_is (pc := 403) rw_0_403 (ls2 := [.ref mm_ext, .ref 0, .ref 77, .ref 125, .int i, .int r19, u6]) rfl rfl (to_an (pc := 405) rw_0_405 rfl (to_an (pc := 406) rw_0_406 rfl (to_i (pc := 407) rw_0_407 rfl (to_c (pc := 409) rw_0_409 (x := (1 : Int32)) rfl rfl (s_addk (pc := 410) rw_0_410 (A := i.toInt) (B := 1) rfl rfl (by omega) (v := v11) e12 (s_x0k (pc := 411) rw_0_411 hL (A := v11.toInt) rfl (by omega) (by omega) (v := v13) e14 (to_an (pc := 412) rw_0_412 rfl (to_i (pc := 413) rw_0_413 rfl (to_c (pc := 415) rw_0_415 (x := (2 : Int32)) rfl rfl (s_addk (pc := 416) rw_0_416 (A := i.toInt) (B := 2) rfl rfl (by omega) (v := v15) e16 ?_)))))))))))
  refine s_x0k (pc := 417) rw_0_417 hL (A := v15.toInt) rfl (by omega) (by omega) (v := v17) e18 (s_v (pc := 418) rw_0_418 (dp0 hd (by decide)) (ls0 := [.ref 77, .int v13, .int v17]) rfl (Nat.le_of_ble_eq_true rfl) (Nat.le_of_ble_eq_true rfl) rfl (to_rc rfl rfl rfl (g_o hG20 rfl)) rfl ?_)
  have j_29 := (PLk_f (fun a i z => K_n K21 rfl) hs2.1)
  refine E_182 hX (dp1 hd (by decide)) hG20 j_29 (f := v13) (w := v17) (sg := sg) (fun r30 M36 hG32 F31 p_33 p_34 p_35 => ?_)
  have n_37 : M36.1.2.1 = M24.1.2.1 ∧ M36.1.2.2.1 = M24.1.2.2.1 := by rw [F31.1]; exact ⟨rfl, rfl⟩
  refine to_is (pc := 421) rw_0_421 (ls2 := [.ref mm_ext, .ref 0, .ref 77, .ref 125, .int i, .int r19, .int r30]) rfl rfl (to_go (pc := 423) rw_0_423 ?_)
  have c_39 : M36.2.1 77 7 = (M.2.1 77 7) := (F_n F31 (show ¬ (77 = 77 ∧ 7 = 2) by decide) (K_n K21 rfl))
  have t_40 : (M36.2.1 77 7).toInt = (M.2.1 77 7).toInt := congrArg Int32.toInt c_39
  have c_41 : M36.2.1 77 6 = (M.2.1 77 6) := (F_n F31 (show ¬ (77 = 77 ∧ 6 = 2) by decide) (K_n K21 rfl))
  have t_42 : (M36.2.1 77 6).toInt = (M.2.1 77 6).toInt := congrArg Int32.toInt c_41
  have c_43 : M36.2.1 1 1 = (M.2.1 1 1) := (F_n F31 (show ¬ (1 = 77 ∧ 1 = 2) by decide) (K_n K21 rfl))
  have t_44 : (M36.2.1 1 1).toInt = (M.2.1 1 1).toInt := congrArg Int32.toInt c_43
  have c_45 : M36.2.1 77 1 = (M.2.1 77 1) := (F_n F31 (show ¬ (77 = 77 ∧ 1 = 2) by decide) (K_n K21 rfl))
  have t_46 : (M36.2.1 77 1).toInt = (M.2.1 77 1).toInt := congrArg Int32.toInt c_45
  have c_47 : M36.2.1 0 12 = (M.2.1 0 12) := (F_n F31 (show ¬ (0 = 77 ∧ 12 = 2) by decide) (K_n K21 rfl))
  have t_48 : (M36.2.1 0 12).toInt = (M.2.1 0 12).toInt := congrArg Int32.toInt c_47
  have c_49 : M36.2.1 77 28 = (M.2.1 77 28) := (F_n F31 (show ¬ (77 = 77 ∧ 28 = 2) by decide) (K_n K21 rfl))
  have t_50 : (M36.2.1 77 28).toInt = (M.2.1 77 28).toInt := congrArg Int32.toInt c_49
  have c_51 : M36.2.1 17 4 = (M.2.1 17 4) := (F_n F31 (show ¬ (17 = 77 ∧ 4 = 2) by decide) (K_n K21 rfl))
  have t_52 : (M36.2.1 17 4).toInt = (M.2.1 17 4).toInt := congrArg Int32.toInt c_51
  have c_53 : M36.2.1 77 41 = (M.2.1 77 41) := (F_n F31 (show ¬ (77 = 77 ∧ 41 = 2) by decide) (K_n K21 rfl))
  have t_54 : (M36.2.1 77 41).toInt = (M.2.1 77 41).toInt := congrArg Int32.toInt c_53
  have c_55 : M36.2.1 6 0 = (M.2.1 6 0) := (F_n F31 (show ¬ (6 = 77 ∧ 0 = 2) by decide) (K_n K21 rfl))
  have t_56 : (M36.2.1 6 0).toInt = (M.2.1 6 0).toInt := congrArg Int32.toInt c_55
  have c_57 : M36.2.1 77 29 = (M.2.1 77 29) := (F_n F31 (show ¬ (77 = 77 ∧ 29 = 2) by decide) (K_n K21 rfl))
  have t_58 : (M36.2.1 77 29).toInt = (M.2.1 77 29).toInt := congrArg Int32.toInt c_57
  have c_59 : M36.2.1 28 8 = (M.2.1 28 8) := (F_n F31 (show ¬ (28 = 77 ∧ 8 = 2) by decide) (K_n K21 rfl))
  have t_60 : (M36.2.1 28 8).toInt = (M.2.1 28 8).toInt := congrArg Int32.toInt c_59
  have c_61 : M36.2.1 77 43 = (M.2.1 77 43) := (F_n F31 (show ¬ (77 = 77 ∧ 43 = 2) by decide) (K_n K21 rfl))
  have t_62 : (M36.2.1 77 43).toInt = (M.2.1 77 43).toInt := congrArg Int32.toInt c_61
  have c_63 : M36.2.1 28 9 = (M.2.1 28 9) := (F_n F31 (show ¬ (28 = 77 ∧ 9 = 2) by decide) (K_n K21 rfl))
  have t_64 : (M36.2.1 28 9).toInt = (M.2.1 28 9).toInt := congrArg Int32.toInt c_63
  have c_65 : M36.2.1 77 42 = (M.2.1 77 42) := (F_n F31 (show ¬ (77 = 77 ∧ 42 = 2) by decide) (K_n K21 rfl))
  have t_66 : (M36.2.1 77 42).toInt = (M.2.1 77 42).toInt := congrArg Int32.toInt c_65
  have j_67 := (PI_f (tg_557 F31) (PI_f (fun a i z => K_n K21 rfl) jPI))
  have j_68 := (NI_f (tg_558 F31) (NI_f (fun a i z => K_n K21 rfl) jNI))
  have j_69 := (QI_f (tg_559 F31) (QI_f (fun a i z => K_n K21 rfl) jQI))
  have j_70 := (PQE_r F31.2.1 (PQE_r K22 jPQE))
  have j_71 := (FA_f (tg_560 F31) (FA_f (fun a i z => K_n K21 rfl) jFA))
  have j_72 := (WC_f (tg_561 F31) (WC_f (fun a i z => K_n K21 rfl) jWC))
  have j_73 := (NJ_f (tg_563 F31) (NJ_f (fun a i z => K_n K21 rfl) jNJ))
  have j_74 := (PS_f (tg_564 F31) (PS_f (fun a i z => K_n K21 rfl) jPS))
  have j_75 := (KQ_f (tg_566 F31) (KQ_f (fun a i z => K_n K21 rfl) jKQ))
  have j_76 := (TP_f (tg_567 F31) (TP_f (fun a i z => K_n K21 rfl) jTP))
  have j_77 := (W9_f (tg_569 F31) (W9_f (fun a i z => K_n K21 rfl) jW9))
  have j_78 := (AN_F F31 tg_633 (AN_K K21 K22 K23 jAN))
  have j_79 := (KNA_F F31 (fun a i z => show ¬ (a = 77 ∧ i = 2) by omega) (KNA_K K21 K22 K23 jKNA))
  have j_80 := (NE_r F31.2.1 (NE_r K22 jNE))
  have j_81 := (W8_f (tg_570 F31) (W8_f (fun a i z => K_n K21 rfl) jW8))
  exact h M36 (.int r19) (.int r30) ⟨⟨⟨⟨⟨⟨⟨⟨⟨hG32, ⟨j_67, j_68, j_69, j_70⟩, ⟨j_71, j_72, j_73, j_74, j_75⟩, by omega, by omega⟩, j_76, j_77⟩, j_80, by omega⟩, AN_a j_78⟩, by omega⟩, j_81⟩, by omega⟩, j_78⟩, j_79, by omega, by omega⟩ (by omega) (by omega)
set_option maxRecDepth 4000 in
set_option maxHeartbeats 0 in
theorem LW_7 {X : mm_X} {d L : Nat} {M : mm_M} {Q : Option Value → mm_M → Prop} {i : Int32} {u5 u6 : Value} (hX : g_X X) (hW : g_W X) (hW2 : g_W2 X) (hL : (X 0).1 = L) (h3 : L ≤ 3072) (hd : 40 ≤ d) (hi : 0 ≤ i.toInt) (hi2 : i.toInt + 6 ≤ (L : Int)) (H : LI10 M) (h : ∀ (M1 : mm_M) (v5 v6 : Value), LI10 M1 → M1.1.2.1 ≤ M.1.2.1 + 1 → M1.1.2.2.1 ≤ M.1.2.2.1 + 6 → mm_T X d 0 1313 [.ref mm_ext, .ref 0, .ref 77, .ref 125, .int i, v5, v6] [] M1 Q) : mm_T X d 0 426 [.ref mm_ext, .ref 0, .ref 77, .ref 125, .int i, u5, u6] [] M Q := by
  obtain ⟨⟨⟨⟨⟨⟨⟨⟨⟨hG, ⟨jPI, jNI, jQI, jPQE⟩, ⟨jFA, jWC, jNJ, jPS, jKQ⟩, jJ, jE⟩, jTP, jW9⟩, jNE, jCC⟩, -⟩, jOV⟩, jW8⟩, jNN⟩, jAN⟩, jKNA, jDN, jPN⟩ := H
  have b_1 := g_b hG (a := 77) (i := 7) (lo := 0) (hi := 500) rfl rfl
  have b_2 := g_b hG (a := 77) (i := 6) (lo := 0) (hi := 500) rfl rfl
  have b_3 := g_b hG (a := 1) (i := 1) (lo := 0) (hi := 500) rfl rfl
  have b_4 := g_b hG (a := 77) (i := 1) (lo := 0) (hi := 500) rfl rfl
  have b_5 := g_b hG (a := 0) (i := 12) (lo := 0) (hi := 30) rfl rfl
  have b_6 := g_b hG (a := 77) (i := 28) (lo := 0) (hi := 30) rfl rfl
  have b_7 := g_b hG (a := 6) (i := 0) (lo := 0) (hi := 150) rfl rfl
  have b_8 := g_b hG (a := 77) (i := 29) (lo := 0) (hi := 150) rfl rfl
  have b_9 := g_b hG (a := 28) (i := 8) (lo := 0) (hi := 3000) rfl rfl
  have b_10 := g_b hG (a := 77) (i := 43) (lo := 0) (hi := 3000) rfl rfl
  refine to_an (pc := 426) rw_0_426 rfl (to_an (pc := 427) rw_0_427 rfl (to_i (pc := 428) rw_0_428 rfl (to_c (pc := 430) rw_0_430 (x := (1 : Int32)) rfl rfl (s_add (pc := 431) rw_0_431 (A := i.toInt) (B := 1) rfl rfl (by omega) (fun v11 e12 => s_x0 (pc := 432) rw_0_432 hL (A := v11.toInt) rfl (by omega) (by omega) (fun v13 e14 => to_an (pc := 433) rw_0_433 rfl (to_i (pc := 434) rw_0_434 rfl (to_c (pc := 436) rw_0_436 (x := (2 : Int32)) rfl rfl (s_add (pc := 437) rw_0_437 (A := i.toInt) (B := 2) rfl rfl (by omega) (fun v15 e16 => s_x0 (pc := 438) rw_0_438 hL (A := v15.toInt) rfl (by omega) (by omega) (fun v17 e18 => s_v (pc := 439) rw_0_439 (dp0 hd (by decide)) (ls0 := [.ref 0, .int v13, .int v17]) rfl (Nat.le_of_ble_eq_true rfl) (Nat.le_of_ble_eq_true rfl) rfl (to_rc rfl rfl rfl (g_o hG rfl)) rfl ?_)))))))))))
  obtain ⟨pz19, pzz19, qz19, qzz19, hpz19, hpzz19, hqz19, hqzz19, hpqz19⟩ := id jPQE
  obtain ⟨sg, NN, nz, ca, hs1, hs2, hn1, hn2, hn3, hn4, hn5⟩ := AN_u jAN hpqz19
  refine E_116 hX (dp1 hd (by decide)) hG hpz19 hpzz19 hqz19 hqzz19 hpqz19 hs1.1 hW2 (f := v13) (v := v17) (sg := sg) (p := pz19) (pz := pzz19) (q := qz19) (qz := qzz19) (fun r20 M24 hG22 F21 p_23 => ?_)
  have n_25 : M24.1.2.1 = M.1.2.1 ∧ M24.1.2.2.1 = M.1.2.2.1 := by rw [F21.1]; exact ⟨rfl, rfl⟩
  refine s_pop2 (pc := 442) rw_0_442 (to_an (pc := 443) rw_0_443 rfl (to_an (pc := 444) rw_0_444 rfl (to_i (pc := 445) rw_0_445 rfl (to_c (pc := 447) rw_0_447 (x := (1 : Int32)) rfl rfl (s_addk (pc := 448) rw_0_448 (A := i.toInt) (B := 1) rfl rfl (by omega) (v := v11) e12 (s_x0k (pc := 449) rw_0_449 hL (A := v11.toInt) rfl (by omega) (by omega) (v := v13) e14 (to_an (pc := 450) rw_0_450 rfl (to_i (pc := 451) rw_0_451 rfl (to_c (pc := 453) rw_0_453 (x := (2 : Int32)) rfl rfl (s_addk (pc := 454) rw_0_454 (A := i.toInt) (B := 2) rfl rfl (by omega) (v := v15) e16 (s_x0k (pc := 455) rw_0_455 hL (A := v15.toInt) rfl (by omega) (by omega) (v := v17) e18 ?_)))))))))))
  refine s_v (pc := 456) rw_0_456 (dp0 hd (by decide)) (ls0 := [.ref 77, .int v13, .int v17]) rfl (Nat.le_of_ble_eq_true rfl) (Nat.le_of_ble_eq_true rfl) rfl (to_rc rfl rfl rfl (g_o hG22 rfl)) rfl ?_
  have j_31 := (FA_f (tg_299 F21) jFA)
  have j_32 := (PLk_f (tg_101 F21) hs2.1)
  have j_33 := (W8_f (tg_571 F21) jW8)
  refine E_185 hX (dp1 hd (by decide)) hG22 j_31 j_32 j_33 (f := v13) (v := v17) (sg := sg) (fun r34 M38 hG36 F35 p_37 => ?_)
  have n_39 : M38.1.2.1 = M24.1.2.1 ∧ M38.1.2.2.1 = M24.1.2.2.1 := by rw [F35.1]; exact ⟨rfl, rfl⟩
  have z_41 := x_eq_1.mpr (p_23.trans p_37.symm)
  refine s_pop2 (pc := 459) rw_0_459 (to_go (pc := 460) rw_0_460 ?_)
  have c_42 : M38.2.1 77 7 = (M.2.1 77 7) := (F_n F35 (show ¬ (77 = 77 ∧ 7 = 2) by decide) (F_n F21 (show ¬ (77 < 0) by decide) rfl))
  have t_43 : (M38.2.1 77 7).toInt = (M.2.1 77 7).toInt := congrArg Int32.toInt c_42
  have c_44 : M38.2.1 77 6 = (M.2.1 77 6) := (F_n F35 (show ¬ (77 = 77 ∧ 6 = 2) by decide) (F_n F21 (show ¬ (77 < 0) by decide) rfl))
  have t_45 : (M38.2.1 77 6).toInt = (M.2.1 77 6).toInt := congrArg Int32.toInt c_44
  have c_46 : M38.2.1 1 1 = (M.2.1 1 1) := (F_n F35 (show ¬ (1 = 77 ∧ 1 = 2) by decide) (F_n F21 (show ¬ (1 < 0) by decide) rfl))
  have t_47 : (M38.2.1 1 1).toInt = (M.2.1 1 1).toInt := congrArg Int32.toInt c_46
  have c_48 : M38.2.1 77 1 = (M.2.1 77 1) := (F_n F35 (show ¬ (77 = 77 ∧ 1 = 2) by decide) (F_n F21 (show ¬ (77 < 0) by decide) rfl))
  have t_49 : (M38.2.1 77 1).toInt = (M.2.1 77 1).toInt := congrArg Int32.toInt c_48
  have c_50 : M38.2.1 0 12 = (M.2.1 0 12) := (F_n F35 (show ¬ (0 = 77 ∧ 12 = 2) by decide) (F_n F21 (show ¬ (0 < 0) by decide) rfl))
  have t_51 : (M38.2.1 0 12).toInt = (M.2.1 0 12).toInt := congrArg Int32.toInt c_50
  have c_52 : M38.2.1 77 28 = (M.2.1 77 28) := (F_n F35 (show ¬ (77 = 77 ∧ 28 = 2) by decide) (F_n F21 (show ¬ (77 < 0) by decide) rfl))
  have t_53 : (M38.2.1 77 28).toInt = (M.2.1 77 28).toInt := congrArg Int32.toInt c_52
  have c_54 : M38.2.1 17 4 = (M.2.1 17 4) := (F_n F35 (show ¬ (17 = 77 ∧ 4 = 2) by decide) (F_n F21 (show ¬ (17 < 0) by decide) rfl))
  have t_55 : (M38.2.1 17 4).toInt = (M.2.1 17 4).toInt := congrArg Int32.toInt c_54
  have c_56 : M38.2.1 77 41 = (M.2.1 77 41) := (F_n F35 (show ¬ (77 = 77 ∧ 41 = 2) by decide) (F_n F21 (show ¬ (77 < 0) by decide) rfl))
  have t_57 : (M38.2.1 77 41).toInt = (M.2.1 77 41).toInt := congrArg Int32.toInt c_56
  have c_58 : M38.2.1 6 0 = (M.2.1 6 0) := (F_n F35 (show ¬ (6 = 77 ∧ 0 = 2) by decide) (F_n F21 (show ¬ (6 < 0) by decide) rfl))
  have t_59 : (M38.2.1 6 0).toInt = (M.2.1 6 0).toInt := congrArg Int32.toInt c_58
  have c_60 : M38.2.1 77 29 = (M.2.1 77 29) := (F_n F35 (show ¬ (77 = 77 ∧ 29 = 2) by decide) (F_n F21 (show ¬ (77 < 0) by decide) rfl))
  have t_61 : (M38.2.1 77 29).toInt = (M.2.1 77 29).toInt := congrArg Int32.toInt c_60
  have c_62 : M38.2.1 28 8 = (M.2.1 28 8) := (F_n F35 (show ¬ (28 = 77 ∧ 8 = 2) by decide) (F_n F21 (show ¬ (28 < 0) by decide) rfl))
  have t_63 : (M38.2.1 28 8).toInt = (M.2.1 28 8).toInt := congrArg Int32.toInt c_62
  have c_64 : M38.2.1 77 43 = (M.2.1 77 43) := (F_n F35 (show ¬ (77 = 77 ∧ 43 = 2) by decide) (F_n F21 (show ¬ (77 < 0) by decide) rfl))
  have t_65 : (M38.2.1 77 43).toInt = (M.2.1 77 43).toInt := congrArg Int32.toInt c_64
  have c_66 : M38.2.1 28 9 = (M.2.1 28 9) := (F_n F35 (show ¬ (28 = 77 ∧ 9 = 2) by decide) (F_n F21 (show ¬ (28 < 0) by decide) rfl))
  have t_67 : (M38.2.1 28 9).toInt = (M.2.1 28 9).toInt := congrArg Int32.toInt c_66
  have c_68 : M38.2.1 77 42 = (M.2.1 77 42) := (F_n F35 (show ¬ (77 = 77 ∧ 42 = 2) by decide) (F_n F21 (show ¬ (77 < 0) by decide) rfl))
  have t_69 : (M38.2.1 77 42).toInt = (M.2.1 77 42).toInt := congrArg Int32.toInt c_68
  have j_70 := (PI_f (tg_557 F35) (PI_f (tg_99 F21) jPI))
  have j_71 := (NI_f (tg_558 F35) (NI_f (tg_98 F21) jNI))
  have j_72 := (QI_f (tg_559 F35) (QI_f (tg_100 F21) jQI))
  have j_73 := (PQE_r F35.2.1 (PQE_r F21.2.1 jPQE))
  have j_74 := (FA_f (tg_560 F35) j_31)
  have j_75 := (WC_f (tg_561 F35) (WC_f (tg_562 F21) jWC))
  have j_76 := (NJ_f (tg_563 F35) (NJ_f (tg_102 F21) jNJ))
  have j_77 := (PS_f (tg_564 F35) (PS_f (tg_565 F21) jPS))
  have j_78 := (KQ_f (tg_566 F35) (KQ_f (tg_416 F21) jKQ))
  have j_79 := (TP_f (tg_567 F35) (TP_f (tg_568 F21) jTP))
  have j_80 := (W9_f (tg_569 F35) (W9_f (tg_46 F21) jW9))
  have j_81 := (AN_F F35 tg_633 (AN_F F21 tg_634 jAN))
  have j_82 := (KNA_F F35 (fun a i z => show ¬ (a = 77 ∧ i = 2) by omega) (KNA_F F21 (fun a i z => show ¬ (a < 0) by omega) jKNA))
  have j_83 := (NE_r F35.2.1 (NE_r F21.2.1 jNE))
  have j_84 := (W8_f (tg_570 F35) j_33)
  exact h M38 (u5) (u6) ⟨⟨⟨⟨⟨⟨⟨⟨⟨hG36, ⟨j_70, j_71, j_72, j_73⟩, ⟨j_74, j_75, j_76, j_77, j_78⟩, by omega, by omega⟩, j_79, j_80⟩, j_83, by omega⟩, AN_a j_81⟩, by omega⟩, j_84⟩, by omega⟩, j_81⟩, j_82, by omega, by omega⟩ (by omega) (by omega)
set_option maxRecDepth 4000 in
set_option maxHeartbeats 0 in
theorem LW_8 {X : mm_X} {d L : Nat} {M : mm_M} {Q : Option Value → mm_M → Prop} {i : Int32} {u5 u6 : Value} (hX : g_X X) (hW : g_W X) (hW2 : g_W2 X) (hL : (X 0).1 = L) (h3 : L ≤ 3072) (hd : 40 ≤ d) (hi : 0 ≤ i.toInt) (hi2 : i.toInt + 6 ≤ (L : Int)) (H : LI10 M) (h : ∀ (M1 : mm_M) (v5 v6 : Value), LI10 M1 → M1.1.2.1 ≤ M.1.2.1 + 1 → M1.1.2.2.1 ≤ M.1.2.2.1 + 6 → mm_T X d 0 1313 [.ref mm_ext, .ref 0, .ref 77, .ref 125, .int i, v5, v6] [] M1 Q) : mm_T X d 0 463 [.ref mm_ext, .ref 0, .ref 77, .ref 125, .int i, u5, u6] [] M Q := by
  obtain ⟨⟨⟨⟨⟨⟨⟨⟨⟨hG, ⟨jPI, jNI, jQI, jPQE⟩, ⟨jFA, jWC, jNJ, jPS, jKQ⟩, jJ, jE⟩, jTP, jW9⟩, jNE, jCC⟩, -⟩, jOV⟩, jW8⟩, jNN⟩, jAN⟩, jKNA, jDN, jPN⟩ := H
  have b_1 := g_b hG (a := 77) (i := 7) (lo := 0) (hi := 500) rfl rfl
  have b_2 := g_b hG (a := 77) (i := 6) (lo := 0) (hi := 500) rfl rfl
  have b_3 := g_b hG (a := 1) (i := 1) (lo := 0) (hi := 500) rfl rfl
  have b_4 := g_b hG (a := 77) (i := 1) (lo := 0) (hi := 500) rfl rfl
  have b_5 := g_b hG (a := 0) (i := 12) (lo := 0) (hi := 30) rfl rfl
  have b_6 := g_b hG (a := 77) (i := 28) (lo := 0) (hi := 30) rfl rfl
  have b_7 := g_b hG (a := 6) (i := 0) (lo := 0) (hi := 150) rfl rfl
  have b_8 := g_b hG (a := 77) (i := 29) (lo := 0) (hi := 150) rfl rfl
  have b_9 := g_b hG (a := 28) (i := 8) (lo := 0) (hi := 3000) rfl rfl
  have b_10 := g_b hG (a := 77) (i := 43) (lo := 0) (hi := 3000) rfl rfl
  refine to_an (pc := 463) rw_0_463 rfl (to_an (pc := 464) rw_0_464 rfl (to_i (pc := 465) rw_0_465 rfl (to_c (pc := 467) rw_0_467 (x := (1 : Int32)) rfl rfl (s_add (pc := 468) rw_0_468 (A := i.toInt) (B := 1) rfl rfl (by omega) (fun v11 e12 => s_x0 (pc := 469) rw_0_469 hL (A := v11.toInt) rfl (by omega) (by omega) (fun v13 e14 => to_an (pc := 470) rw_0_470 rfl (to_i (pc := 471) rw_0_471 rfl (to_c (pc := 473) rw_0_473 (x := (2 : Int32)) rfl rfl (s_add (pc := 474) rw_0_474 (A := i.toInt) (B := 2) rfl rfl (by omega) (fun v15 e16 => s_x0 (pc := 475) rw_0_475 hL (A := v15.toInt) rfl (by omega) (by omega) (fun v17 e18 => s_v (pc := 476) rw_0_476 (dp0 hd (by decide)) (ls0 := [.ref 0, .int v13, .int v17]) rfl (Nat.le_of_ble_eq_true rfl) (Nat.le_of_ble_eq_true rfl) rfl (to_rc rfl rfl rfl (g_o hG rfl)) rfl ?_)))))))))))
  obtain ⟨pz19, pzz19, qz19, qzz19, hpz19, hpzz19, hqz19, hqzz19, hpqz19⟩ := id jPQE
  refine C_117 hX (dp1 hd (by decide)) hG hpz19 hpzz19 hqz19 hqzz19 hpqz19 jNI jPI jQI (n := v13) (w := v17) (p := pz19) (pz := pzz19) (q := qz19) (qz := qzz19) (fun r20 M26 hG22 F21 p_23 p_24 p_25 => ?_)
  have n_27 : M26.1.2.1 = M.1.2.1 ∧ M26.1.2.2.1 = M.1.2.2.1 := by rw [F21.1]; exact ⟨rfl, rfl⟩
  refine s_pop2 (pc := 479) rw_0_479 (to_an (pc := 480) rw_0_480 rfl (to_an (pc := 481) rw_0_481 rfl (to_i (pc := 482) rw_0_482 rfl (to_c (pc := 484) rw_0_484 (x := (1 : Int32)) rfl rfl (s_addk (pc := 485) rw_0_485 (A := i.toInt) (B := 1) rfl rfl (by omega) (v := v11) e12 (s_x0k (pc := 486) rw_0_486 hL (A := v11.toInt) rfl (by omega) (by omega) (v := v13) e14 (to_an (pc := 487) rw_0_487 rfl (to_i (pc := 488) rw_0_488 rfl (to_c (pc := 490) rw_0_490 (x := (2 : Int32)) rfl rfl (s_addk (pc := 491) rw_0_491 (A := i.toInt) (B := 2) rfl rfl (by omega) (v := v15) e16 (s_x0k (pc := 492) rw_0_492 hL (A := v15.toInt) rfl (by omega) (by omega) (v := v17) e18 ?_)))))))))))
  refine s_v (pc := 493) rw_0_493 (dp0 hd (by decide)) (ls0 := [.ref 77, .int v13, .int v17]) rfl (Nat.le_of_ble_eq_true rfl) (Nat.le_of_ble_eq_true rfl) rfl (to_rc rfl rfl rfl (g_o hG22 rfl)) rfl ?_
  have j_33 := (NJ_f (tg_572 F21) jNJ)
  refine C_192 hX (dp1 hd (by decide)) hG22 j_33 (n := v13) (w := v17) (fun r34 M37 hG36 F35 => ?_)
  have n_38 : M37.1.2.1 = M26.1.2.1 ∧ M37.1.2.2.1 = M26.1.2.2.1 := by rw [F35.1]; exact ⟨rfl, rfl⟩
  refine s_pop2 (pc := 496) rw_0_496 (to_go (pc := 497) rw_0_497 ?_)
  have c_40 : M37.2.1 77 7 = (M.2.1 77 7) := (F_n F35 (show ¬ (77 = 77 ∧ 7 = 2 ∨ 94 ≤ 77 ∧ 77 ≤ 98) by decide) (F_n F21 (show ¬ (11 ≤ 77 ∧ 77 ≤ 16 ∨ 18 ≤ 77 ∧ 77 ≤ 27 ∨ 36 ≤ 77 ∧ 77 ≤ 48) by decide) rfl))
  have t_41 : (M37.2.1 77 7).toInt = (M.2.1 77 7).toInt := congrArg Int32.toInt c_40
  have c_42 : M37.2.1 77 6 = (M.2.1 77 6) := (F_n F35 (show ¬ (77 = 77 ∧ 6 = 2 ∨ 94 ≤ 77 ∧ 77 ≤ 98) by decide) (F_n F21 (show ¬ (11 ≤ 77 ∧ 77 ≤ 16 ∨ 18 ≤ 77 ∧ 77 ≤ 27 ∨ 36 ≤ 77 ∧ 77 ≤ 48) by decide) rfl))
  have t_43 : (M37.2.1 77 6).toInt = (M.2.1 77 6).toInt := congrArg Int32.toInt c_42
  have c_44 : M37.2.1 1 1 = (M.2.1 1 1) := (F_n F35 (show ¬ (1 = 77 ∧ 1 = 2 ∨ 94 ≤ 1 ∧ 1 ≤ 98) by decide) (F_n F21 (show ¬ (11 ≤ 1 ∧ 1 ≤ 16 ∨ 18 ≤ 1 ∧ 1 ≤ 27 ∨ 36 ≤ 1 ∧ 1 ≤ 48) by decide) rfl))
  have t_45 : (M37.2.1 1 1).toInt = (M.2.1 1 1).toInt := congrArg Int32.toInt c_44
  have c_46 : M37.2.1 77 1 = (M.2.1 77 1) := (F_n F35 (show ¬ (77 = 77 ∧ 1 = 2 ∨ 94 ≤ 77 ∧ 77 ≤ 98) by decide) (F_n F21 (show ¬ (11 ≤ 77 ∧ 77 ≤ 16 ∨ 18 ≤ 77 ∧ 77 ≤ 27 ∨ 36 ≤ 77 ∧ 77 ≤ 48) by decide) rfl))
  have t_47 : (M37.2.1 77 1).toInt = (M.2.1 77 1).toInt := congrArg Int32.toInt c_46
  have c_48 : M37.2.1 0 12 = (M.2.1 0 12) := (F_n F35 (show ¬ (0 = 77 ∧ 12 = 2 ∨ 94 ≤ 0 ∧ 0 ≤ 98) by decide) (F_n F21 (show ¬ (11 ≤ 0 ∧ 0 ≤ 16 ∨ 18 ≤ 0 ∧ 0 ≤ 27 ∨ 36 ≤ 0 ∧ 0 ≤ 48) by decide) rfl))
  have t_49 : (M37.2.1 0 12).toInt = (M.2.1 0 12).toInt := congrArg Int32.toInt c_48
  have c_50 : M37.2.1 77 28 = (M.2.1 77 28) := (F_n F35 (show ¬ (77 = 77 ∧ 28 = 2 ∨ 94 ≤ 77 ∧ 77 ≤ 98) by decide) (F_n F21 (show ¬ (11 ≤ 77 ∧ 77 ≤ 16 ∨ 18 ≤ 77 ∧ 77 ≤ 27 ∨ 36 ≤ 77 ∧ 77 ≤ 48) by decide) rfl))
  have t_51 : (M37.2.1 77 28).toInt = (M.2.1 77 28).toInt := congrArg Int32.toInt c_50
  have c_52 : M37.2.1 17 4 = (M.2.1 17 4) := (F_n F35 (show ¬ (17 = 77 ∧ 4 = 2 ∨ 94 ≤ 17 ∧ 17 ≤ 98) by decide) (F_n F21 (show ¬ (11 ≤ 17 ∧ 17 ≤ 16 ∨ 18 ≤ 17 ∧ 17 ≤ 27 ∨ 36 ≤ 17 ∧ 17 ≤ 48) by decide) rfl))
  have t_53 : (M37.2.1 17 4).toInt = (M.2.1 17 4).toInt := congrArg Int32.toInt c_52
  have c_54 : M37.2.1 77 41 = (M.2.1 77 41) := (F_n F35 (show ¬ (77 = 77 ∧ 41 = 2 ∨ 94 ≤ 77 ∧ 77 ≤ 98) by decide) (F_n F21 (show ¬ (11 ≤ 77 ∧ 77 ≤ 16 ∨ 18 ≤ 77 ∧ 77 ≤ 27 ∨ 36 ≤ 77 ∧ 77 ≤ 48) by decide) rfl))
  have t_55 : (M37.2.1 77 41).toInt = (M.2.1 77 41).toInt := congrArg Int32.toInt c_54
  have c_56 : M37.2.1 6 0 = (M.2.1 6 0) := (F_n F35 (show ¬ (6 = 77 ∧ 0 = 2 ∨ 94 ≤ 6 ∧ 6 ≤ 98) by decide) (F_n F21 (show ¬ (11 ≤ 6 ∧ 6 ≤ 16 ∨ 18 ≤ 6 ∧ 6 ≤ 27 ∨ 36 ≤ 6 ∧ 6 ≤ 48) by decide) rfl))
  have t_57 : (M37.2.1 6 0).toInt = (M.2.1 6 0).toInt := congrArg Int32.toInt c_56
  have c_58 : M37.2.1 77 29 = (M.2.1 77 29) := (F_n F35 (show ¬ (77 = 77 ∧ 29 = 2 ∨ 94 ≤ 77 ∧ 77 ≤ 98) by decide) (F_n F21 (show ¬ (11 ≤ 77 ∧ 77 ≤ 16 ∨ 18 ≤ 77 ∧ 77 ≤ 27 ∨ 36 ≤ 77 ∧ 77 ≤ 48) by decide) rfl))
  have t_59 : (M37.2.1 77 29).toInt = (M.2.1 77 29).toInt := congrArg Int32.toInt c_58
  have c_60 : M37.2.1 28 8 = (M.2.1 28 8) := (F_n F35 (show ¬ (28 = 77 ∧ 8 = 2 ∨ 94 ≤ 28 ∧ 28 ≤ 98) by decide) (F_n F21 (show ¬ (11 ≤ 28 ∧ 28 ≤ 16 ∨ 18 ≤ 28 ∧ 28 ≤ 27 ∨ 36 ≤ 28 ∧ 28 ≤ 48) by decide) rfl))
  have t_61 : (M37.2.1 28 8).toInt = (M.2.1 28 8).toInt := congrArg Int32.toInt c_60
  have c_62 : M37.2.1 77 43 = (M.2.1 77 43) := (F_n F35 (show ¬ (77 = 77 ∧ 43 = 2 ∨ 94 ≤ 77 ∧ 77 ≤ 98) by decide) (F_n F21 (show ¬ (11 ≤ 77 ∧ 77 ≤ 16 ∨ 18 ≤ 77 ∧ 77 ≤ 27 ∨ 36 ≤ 77 ∧ 77 ≤ 48) by decide) rfl))
  have t_63 : (M37.2.1 77 43).toInt = (M.2.1 77 43).toInt := congrArg Int32.toInt c_62
  have c_64 : M37.2.1 28 9 = (M.2.1 28 9) := (F_n F35 (show ¬ (28 = 77 ∧ 9 = 2 ∨ 94 ≤ 28 ∧ 28 ≤ 98) by decide) (F_n F21 (show ¬ (11 ≤ 28 ∧ 28 ≤ 16 ∨ 18 ≤ 28 ∧ 28 ≤ 27 ∨ 36 ≤ 28 ∧ 28 ≤ 48) by decide) rfl))
  have t_65 : (M37.2.1 28 9).toInt = (M.2.1 28 9).toInt := congrArg Int32.toInt c_64
  have c_66 : M37.2.1 77 42 = (M.2.1 77 42) := (F_n F35 (show ¬ (77 = 77 ∧ 42 = 2 ∨ 94 ≤ 77 ∧ 77 ≤ 98) by decide) (F_n F21 (show ¬ (11 ≤ 77 ∧ 77 ≤ 16 ∨ 18 ≤ 77 ∧ 77 ≤ 27 ∨ 36 ≤ 77 ∧ 77 ≤ 48) by decide) rfl))
  have t_67 : (M37.2.1 77 42).toInt = (M.2.1 77 42).toInt := congrArg Int32.toInt c_66
  have j_68 := (PI_f (tg_573 F35) p_23)
  have j_69 := (NI_f (tg_574 F35) p_24)
  have j_70 := (QI_f (tg_575 F35) p_25)
  have j_71 := (PQE_r F35.2.1 (PQE_r F21.2.1 jPQE))
  have j_72 := (FA_f (tg_576 F35) (FA_f (tg_577 F21) jFA))
  have j_73 := (WC_f (tg_578 F35) (WC_f (tg_579 F21) jWC))
  have j_74 := (NJ_f (tg_580 F35) j_33)
  have j_75 := (PS_f (tg_581 F35) (PS_f (tg_582 F21) jPS))
  have j_76 := (KQ_f (tg_583 F35) (KQ_f (tg_584 F21) jKQ))
  have j_77 := (TP_f (tg_585 F35) (TP_f (tg_586 F21) jTP))
  have j_78 := (W9_f (tg_587 F35) (W9_f (tg_588 F21) jW9))
  have j_79 := (AN_F F35 tg_635 (AN_F F21 tg_636 jAN))
  have j_80 := (KNA_F F35 (fun a i z => show ¬ (a = 77 ∧ i = 2 ∨ 94 ≤ a ∧ a ≤ 98) by omega) (KNA_F F21 (fun a i z => show ¬ (11 ≤ a ∧ a ≤ 16 ∨ 18 ≤ a ∧ a ≤ 27 ∨ 36 ≤ a ∧ a ≤ 48) by omega) jKNA))
  have j_81 := (NE_r F35.2.1 (NE_r F21.2.1 jNE))
  have j_82 := (W8_f (tg_589 F35) (W8_f (tg_590 F21) jW8))
  exact h M37 (u5) (u6) ⟨⟨⟨⟨⟨⟨⟨⟨⟨hG36, ⟨j_68, j_69, j_70, j_71⟩, ⟨j_72, j_73, j_74, j_75, j_76⟩, by omega, by omega⟩, j_77, j_78⟩, j_81, by omega⟩, AN_a j_79⟩, by omega⟩, j_82⟩, by omega⟩, j_79⟩, j_80, by omega, by omega⟩ (by omega) (by omega)
set_option maxRecDepth 4000 in
set_option maxHeartbeats 0 in
theorem LW_9 {X : mm_X} {d L : Nat} {M : mm_M} {Q : Option Value → mm_M → Prop} {i : Int32} {u5 u6 : Value} (hX : g_X X) (hW : g_W X) (hW2 : g_W2 X) (hL : (X 0).1 = L) (h3 : L ≤ 3072) (hd : 40 ≤ d) (hi : 0 ≤ i.toInt) (hi2 : i.toInt + 6 ≤ (L : Int)) (H : LI10 M) (h : ∀ (M1 : mm_M) (v5 v6 : Value), LI10 M1 → M1.1.2.1 ≤ M.1.2.1 + 1 → M1.1.2.2.1 ≤ M.1.2.2.1 + 6 → mm_T X d 0 1313 [.ref mm_ext, .ref 0, .ref 77, .ref 125, .int i, v5, v6] [] M1 Q) : mm_T X d 0 500 [.ref mm_ext, .ref 0, .ref 77, .ref 125, .int i, u5, u6] [] M Q := by
  obtain ⟨⟨⟨⟨⟨⟨⟨⟨⟨hG, ⟨jPI, jNI, jQI, jPQE⟩, ⟨jFA, jWC, jNJ, jPS, jKQ⟩, jJ, jE⟩, jTP, jW9⟩, jNE, jCC⟩, -⟩, jOV⟩, jW8⟩, jNN⟩, jAN⟩, jKNA, jDN, jPN⟩ := H
  have b_1 := g_b hG (a := 77) (i := 7) (lo := 0) (hi := 500) rfl rfl
  have b_2 := g_b hG (a := 77) (i := 6) (lo := 0) (hi := 500) rfl rfl
  have b_3 := g_b hG (a := 1) (i := 1) (lo := 0) (hi := 500) rfl rfl
  have b_4 := g_b hG (a := 77) (i := 1) (lo := 0) (hi := 500) rfl rfl
  have b_5 := g_b hG (a := 0) (i := 12) (lo := 0) (hi := 30) rfl rfl
  have b_6 := g_b hG (a := 77) (i := 28) (lo := 0) (hi := 30) rfl rfl
  have b_7 := g_b hG (a := 6) (i := 0) (lo := 0) (hi := 150) rfl rfl
  have b_8 := g_b hG (a := 77) (i := 29) (lo := 0) (hi := 150) rfl rfl
  have b_9 := g_b hG (a := 28) (i := 8) (lo := 0) (hi := 3000) rfl rfl
  have b_10 := g_b hG (a := 77) (i := 43) (lo := 0) (hi := 3000) rfl rfl
  refine to_an (pc := 500) rw_0_500 rfl (s_v (pc := 501) rw_0_501 (dp0 hd (by decide)) (ls0 := [.ref 0]) rfl (Nat.le_of_ble_eq_true rfl) (Nat.le_of_ble_eq_true rfl) rfl (to_rc rfl rfl rfl (g_o hG rfl)) rfl ?_)
  obtain ⟨pz11, pzz11, qz11, qzz11, hpz11, hpzz11, hqz11, hqzz11, hpqz11⟩ := id jPQE
  refine C_118 hX (dp1 hd (by decide)) hG hpz11 hpzz11 hqz11 hqzz11 hpqz11 jPI jNI jQI (p := pz11) (pz := pzz11) (q := qz11) (qz := qzz11) (fun r12 M20 hG14 F13 p_15 p_16 p_17 p_18 p_19 => ?_)
  have n_21 : M20.1.2.1 = M.1.2.1 ∧ M20.1.2.2.1 = M.1.2.2.1 := by rw [F13.1]; exact ⟨rfl, rfl⟩
  have b_23 := g_b hG14 (a := 0) (i := 12) (lo := 0) (hi := 30) rfl rfl
  have z_24 := AN_C F13 (fun a i z => show ¬ (a = 0 ∧ i = 12 ∨ 18 ≤ a ∧ a ≤ 27) by omega) (by omega) jAN
  refine to_popi (pc := 504) rw_0_504 (to_an (pc := 505) rw_0_505 rfl (s_v (pc := 506) rw_0_506 (dp0 hd (by decide)) (ls0 := [.ref 77]) rfl (Nat.le_of_ble_eq_true rfl) (Nat.le_of_ble_eq_true rfl) rfl (to_rc rfl rfl rfl (g_o hG14 rfl)) rfl ?_))
  have c_25 : M20.2.1 77 28 = (M.2.1 77 28) := (F_n F13 (show ¬ (77 = 0 ∧ 28 = 12 ∨ 18 ≤ 77 ∧ 77 ≤ 27) by decide) rfl)
  have t_26 : (M20.2.1 77 28).toInt = (M.2.1 77 28).toInt := congrArg Int32.toInt c_25
  have j_27 := (PS_f (tg_591 F13) jPS)
  refine C_193 hX (dp1 hd (by decide)) hG14 j_27  (fun r28 M34 hG30 F29 p_31 p_32 p_33 => ?_)
  have n_35 : M34.1.2.1 = M20.1.2.1 ∧ M34.1.2.2.1 = M20.1.2.2.1 := by rw [F29.1]; exact ⟨rfl, rfl⟩
  have b_37 := g_b hG30 (a := 77) (i := 28) (lo := 0) (hi := 30) rfl rfl
  refine to_popi (pc := 509) rw_0_509 (to_go (pc := 510) rw_0_510 ?_)
  have c_38 : M34.2.1 77 7 = (M.2.1 77 7) := (F_n F29 (show ¬ (77 = 77 ∧ (7 = 2 ∨ 7 = 28) ∨ 77 = 99 ∨ 77 = 100) by decide) (F_n F13 (show ¬ (77 = 0 ∧ 7 = 12 ∨ 18 ≤ 77 ∧ 77 ≤ 27) by decide) rfl))
  have t_39 : (M34.2.1 77 7).toInt = (M.2.1 77 7).toInt := congrArg Int32.toInt c_38
  have c_40 : M34.2.1 77 6 = (M.2.1 77 6) := (F_n F29 (show ¬ (77 = 77 ∧ (6 = 2 ∨ 6 = 28) ∨ 77 = 99 ∨ 77 = 100) by decide) (F_n F13 (show ¬ (77 = 0 ∧ 6 = 12 ∨ 18 ≤ 77 ∧ 77 ≤ 27) by decide) rfl))
  have t_41 : (M34.2.1 77 6).toInt = (M.2.1 77 6).toInt := congrArg Int32.toInt c_40
  have c_42 : M34.2.1 1 1 = (M.2.1 1 1) := (F_n F29 (show ¬ (1 = 77 ∧ (1 = 2 ∨ 1 = 28) ∨ 1 = 99 ∨ 1 = 100) by decide) (F_n F13 (show ¬ (1 = 0 ∧ 1 = 12 ∨ 18 ≤ 1 ∧ 1 ≤ 27) by decide) rfl))
  have t_43 : (M34.2.1 1 1).toInt = (M.2.1 1 1).toInt := congrArg Int32.toInt c_42
  have c_44 : M34.2.1 77 1 = (M.2.1 77 1) := (F_n F29 (show ¬ (77 = 77 ∧ (1 = 2 ∨ 1 = 28) ∨ 77 = 99 ∨ 77 = 100) by decide) (F_n F13 (show ¬ (77 = 0 ∧ 1 = 12 ∨ 18 ≤ 77 ∧ 77 ≤ 27) by decide) rfl))
  have t_45 : (M34.2.1 77 1).toInt = (M.2.1 77 1).toInt := congrArg Int32.toInt c_44
  have c_46 : M34.2.1 0 12 = (M20.2.1 0 12) := (F_n F29 (show ¬ (0 = 77 ∧ (12 = 2 ∨ 12 = 28) ∨ 0 = 99 ∨ 0 = 100) by decide) rfl)
  have t_47 : (M34.2.1 0 12).toInt = (M20.2.1 0 12).toInt := congrArg Int32.toInt c_46
  have c_48 : M34.2.1 17 4 = (M.2.1 17 4) := (F_n F29 (show ¬ (17 = 77 ∧ (4 = 2 ∨ 4 = 28) ∨ 17 = 99 ∨ 17 = 100) by decide) (F_n F13 (show ¬ (17 = 0 ∧ 4 = 12 ∨ 18 ≤ 17 ∧ 17 ≤ 27) by decide) rfl))
  have t_49 : (M34.2.1 17 4).toInt = (M.2.1 17 4).toInt := congrArg Int32.toInt c_48
  have c_50 : M34.2.1 77 41 = (M.2.1 77 41) := (F_n F29 (show ¬ (77 = 77 ∧ (41 = 2 ∨ 41 = 28) ∨ 77 = 99 ∨ 77 = 100) by decide) (F_n F13 (show ¬ (77 = 0 ∧ 41 = 12 ∨ 18 ≤ 77 ∧ 77 ≤ 27) by decide) rfl))
  have t_51 : (M34.2.1 77 41).toInt = (M.2.1 77 41).toInt := congrArg Int32.toInt c_50
  have c_52 : M34.2.1 6 0 = (M.2.1 6 0) := (F_n F29 (show ¬ (6 = 77 ∧ (0 = 2 ∨ 0 = 28) ∨ 6 = 99 ∨ 6 = 100) by decide) (F_n F13 (show ¬ (6 = 0 ∧ 0 = 12 ∨ 18 ≤ 6 ∧ 6 ≤ 27) by decide) rfl))
  have t_53 : (M34.2.1 6 0).toInt = (M.2.1 6 0).toInt := congrArg Int32.toInt c_52
  have c_54 : M34.2.1 77 29 = (M.2.1 77 29) := (F_n F29 (show ¬ (77 = 77 ∧ (29 = 2 ∨ 29 = 28) ∨ 77 = 99 ∨ 77 = 100) by decide) (F_n F13 (show ¬ (77 = 0 ∧ 29 = 12 ∨ 18 ≤ 77 ∧ 77 ≤ 27) by decide) rfl))
  have t_55 : (M34.2.1 77 29).toInt = (M.2.1 77 29).toInt := congrArg Int32.toInt c_54
  have c_56 : M34.2.1 28 8 = (M.2.1 28 8) := (F_n F29 (show ¬ (28 = 77 ∧ (8 = 2 ∨ 8 = 28) ∨ 28 = 99 ∨ 28 = 100) by decide) (F_n F13 (show ¬ (28 = 0 ∧ 8 = 12 ∨ 18 ≤ 28 ∧ 28 ≤ 27) by decide) rfl))
  have t_57 : (M34.2.1 28 8).toInt = (M.2.1 28 8).toInt := congrArg Int32.toInt c_56
  have c_58 : M34.2.1 77 43 = (M.2.1 77 43) := (F_n F29 (show ¬ (77 = 77 ∧ (43 = 2 ∨ 43 = 28) ∨ 77 = 99 ∨ 77 = 100) by decide) (F_n F13 (show ¬ (77 = 0 ∧ 43 = 12 ∨ 18 ≤ 77 ∧ 77 ≤ 27) by decide) rfl))
  have t_59 : (M34.2.1 77 43).toInt = (M.2.1 77 43).toInt := congrArg Int32.toInt c_58
  have c_60 : M34.2.1 28 9 = (M.2.1 28 9) := (F_n F29 (show ¬ (28 = 77 ∧ (9 = 2 ∨ 9 = 28) ∨ 28 = 99 ∨ 28 = 100) by decide) (F_n F13 (show ¬ (28 = 0 ∧ 9 = 12 ∨ 18 ≤ 28 ∧ 28 ≤ 27) by decide) rfl))
  have t_61 : (M34.2.1 28 9).toInt = (M.2.1 28 9).toInt := congrArg Int32.toInt c_60
  have c_62 : M34.2.1 77 42 = (M.2.1 77 42) := (F_n F29 (show ¬ (77 = 77 ∧ (42 = 2 ∨ 42 = 28) ∨ 77 = 99 ∨ 77 = 100) by decide) (F_n F13 (show ¬ (77 = 0 ∧ 42 = 12 ∨ 18 ≤ 77 ∧ 77 ≤ 27) by decide) rfl))
  have t_63 : (M34.2.1 77 42).toInt = (M.2.1 77 42).toInt := congrArg Int32.toInt c_62
  have j_64 := (PI_f (tg_592 F29) p_17)
  have j_65 := (NI_f (tg_593 F29) p_18)
  have j_66 := (QI_f (tg_594 F29) p_19)
  have j_67 := (PQE_r F29.2.1 (PQE_r F13.2.1 jPQE))
  have j_68 := (FA_f (tg_595 F29) (FA_f (tg_596 F13) jFA))
  have j_69 := (WC_f (tg_597 F29) (WC_f (tg_598 F13) jWC))
  have j_70 := (NJ_f (tg_599 F29) (NJ_f (tg_600 F13) jNJ))
  have j_71 := (KQ_f (tg_601 F29) (KQ_f (tg_602 F13) jKQ))
  have j_72 := (TP_f (tg_603 F29) (TP_f (tg_604 F13) jTP))
  have j_73 := (W9_f (tg_605 F29) (W9_f (tg_606 F13) jW9))
  have j_74 := (AN_F F29 tg_637 z_24)
  have j_75 := (KNA_F F29 (fun a i z => show ¬ (a = 77 ∧ (i = 2 ∨ i = 28) ∨ a = 99 ∨ a = 100) by omega) (KNA_F F13 (fun a i z => show ¬ (a = 0 ∧ i = 12 ∨ 18 ≤ a ∧ a ≤ 27) by omega) jKNA))
  have j_76 := (NE_r F29.2.1 (NE_r F13.2.1 jNE))
  have j_77 := (W8_f (tg_607 F29) (W8_f (tg_608 F13) jW8))
  exact h M34 (u5) (u6) ⟨⟨⟨⟨⟨⟨⟨⟨⟨hG30, ⟨j_64, j_65, j_66, j_67⟩, ⟨j_68, j_69, j_70, p_33, j_71⟩, by omega, by omega⟩, j_72, j_73⟩, j_76, by omega⟩, AN_a j_74⟩, by omega⟩, j_77⟩, by omega⟩, j_74⟩, j_75, by omega, by omega⟩ (by omega) (by omega)
set_option maxRecDepth 4000 in
set_option maxHeartbeats 0 in
theorem LW_10 {X : mm_X} {d L : Nat} {M : mm_M} {Q : Option Value → mm_M → Prop} {i : Int32} {u5 u6 : Value} (hX : g_X X) (hW : g_W X) (hW2 : g_W2 X) (hL : (X 0).1 = L) (h3 : L ≤ 3072) (hd : 40 ≤ d) (hi : 0 ≤ i.toInt) (hi2 : i.toInt + 6 ≤ (L : Int)) (H : LI10 M) (h : ∀ (M1 : mm_M) (v5 v6 : Value), LI10 M1 → M1.1.2.1 ≤ M.1.2.1 + 1 → M1.1.2.2.1 ≤ M.1.2.2.1 + 6 → mm_T X d 0 1313 [.ref mm_ext, .ref 0, .ref 77, .ref 125, .int i, v5, v6] [] M1 Q) : mm_T X d 0 513 [.ref mm_ext, .ref 0, .ref 77, .ref 125, .int i, u5, u6] [] M Q := by
  obtain ⟨⟨⟨⟨⟨⟨⟨⟨⟨hG, ⟨jPI, jNI, jQI, jPQE⟩, ⟨jFA, jWC, jNJ, jPS, jKQ⟩, jJ, jE⟩, jTP, jW9⟩, jNE, jCC⟩, -⟩, jOV⟩, jW8⟩, jNN⟩, jAN⟩, jKNA, jDN, jPN⟩ := H
  have b_1 := g_b hG (a := 77) (i := 7) (lo := 0) (hi := 500) rfl rfl
  have b_2 := g_b hG (a := 77) (i := 6) (lo := 0) (hi := 500) rfl rfl
  have b_3 := g_b hG (a := 1) (i := 1) (lo := 0) (hi := 500) rfl rfl
  have b_4 := g_b hG (a := 77) (i := 1) (lo := 0) (hi := 500) rfl rfl
  have b_5 := g_b hG (a := 0) (i := 12) (lo := 0) (hi := 30) rfl rfl
  have b_6 := g_b hG (a := 77) (i := 28) (lo := 0) (hi := 30) rfl rfl
  have b_7 := g_b hG (a := 6) (i := 0) (lo := 0) (hi := 150) rfl rfl
  have b_8 := g_b hG (a := 77) (i := 29) (lo := 0) (hi := 150) rfl rfl
  have b_9 := g_b hG (a := 28) (i := 8) (lo := 0) (hi := 3000) rfl rfl
  have b_10 := g_b hG (a := 77) (i := 43) (lo := 0) (hi := 3000) rfl rfl
  refine to_an (pc := 513) rw_0_513 rfl (to_an (pc := 514) rw_0_514 rfl (to_i (pc := 515) rw_0_515 rfl (to_c (pc := 517) rw_0_517 (x := (1 : Int32)) rfl rfl (s_add (pc := 518) rw_0_518 (A := i.toInt) (B := 1) rfl rfl (by omega) (fun v11 e12 => s_x0 (pc := 519) rw_0_519 hL (A := v11.toInt) rfl (by omega) (by omega) (fun v13 e14 => to_an (pc := 520) rw_0_520 rfl (to_i (pc := 521) rw_0_521 rfl (to_c (pc := 523) rw_0_523 (x := (2 : Int32)) rfl rfl (s_add (pc := 524) rw_0_524 (A := i.toInt) (B := 2) rfl rfl (by omega) (fun v15 e16 => s_x0 (pc := 525) rw_0_525 hL (A := v15.toInt) rfl (by omega) (by omega) (fun v17 e18 => to_an (pc := 526) rw_0_526 rfl ?_)))))))))))
  refine to_i (pc := 527) rw_0_527 rfl (to_c (pc := 529) rw_0_529 (x := (3 : Int32)) rfl rfl (s_add (pc := 530) rw_0_530 (A := i.toInt) (B := 3) rfl rfl (by omega) (fun v19 e20 => s_x0 (pc := 531) rw_0_531 hL (A := v19.toInt) rfl (by omega) (by omega) (fun v21 e22 => s_v (pc := 532) rw_0_532 (dp0 hd (by decide)) (ls0 := [.ref 0, .int v13, .int v17, .int v21]) rfl (Nat.le_of_ble_eq_true rfl) (Nat.le_of_ble_eq_true rfl) rfl (to_rc rfl rfl rfl (g_o hG rfl)) rfl ?_))))
  obtain ⟨pz23, pzz23, qz23, qzz23, hpz23, hpzz23, hqz23, hqzz23, hpqz23⟩ := id jPQE
  obtain ⟨sg, NN, nz, ca, hs1, hs2, hn1, hn2, hn3, hn4, hn5⟩ := AN_u jAN hpqz23
  refine E_119 hX (dp1 hd (by decide)) hG hpz23 hpzz23 hqz23 hqzz23 hpqz23 jNI jPI jQI hs1.1 (c := v13) (f := v17) (v := v21) (sg := sg) (p := pz23) (pz := pzz23) (q := qz23) (qz := qzz23) (fun r24 M33 hG26 F25 p_27 p_28 p_29 p_30 p_31 p_32 => ?_)
  have n_34 : M33.1.2.1 = M.1.2.1 ∧ M33.1.2.2.1 = M.1.2.2.1 := by rw [F25.1]; exact ⟨rfl, rfl⟩
  have b_36 := g_b hG26 (a := 6) (i := 0) (lo := 0) (hi := 150) rfl rfl
  have c_37 : M33.2.1 77 29 = (M.2.1 77 29) := (F_n F25 (show ¬ (6 ≤ 77 ∧ 77 ≤ 10) by decide) rfl)
  have t_38 : (M33.2.1 77 29).toInt = (M.2.1 77 29).toInt := congrArg Int32.toInt c_37
  refine to_popi (pc := 535) rw_0_535 (to_an (pc := 536) rw_0_536 rfl (to_an (pc := 537) rw_0_537 rfl (to_i (pc := 538) rw_0_538 rfl (to_c (pc := 540) rw_0_540 (x := (1 : Int32)) rfl rfl (s_addk (pc := 541) rw_0_541 (A := i.toInt) (B := 1) rfl rfl (by omega) (v := v11) e12 (s_x0k (pc := 542) rw_0_542 hL (A := v11.toInt) rfl (by omega) (by omega) (v := v13) e14 (to_an (pc := 543) rw_0_543 rfl (to_i (pc := 544) rw_0_544 rfl (to_c (pc := 546) rw_0_546 (x := (2 : Int32)) rfl rfl (s_addk (pc := 547) rw_0_547 (A := i.toInt) (B := 2) rfl rfl (by omega) (v := v15) e16 (s_x0k (pc := 548) rw_0_548 hL (A := v15.toInt) rfl (by omega) (by omega) (v := v17) e18 ?_)))))))))))
  refine to_an (pc := 549) rw_0_549 rfl (to_i (pc := 550) rw_0_550 rfl (to_c (pc := 552) rw_0_552 (x := (3 : Int32)) rfl rfl (s_addk (pc := 553) rw_0_553 (A := i.toInt) (B := 3) rfl rfl (by omega) (v := v19) e20 (s_x0k (pc := 554) rw_0_554 hL (A := v19.toInt) rfl (by omega) (by omega) (v := v21) e22 (s_v (pc := 555) rw_0_555 (dp0 hd (by decide)) (ls0 := [.ref 77, .int v13, .int v17, .int v21]) rfl (Nat.le_of_ble_eq_true rfl) (Nat.le_of_ble_eq_true rfl) rfl (to_rc rfl rfl rfl (g_o hG26 rfl)) rfl ?_)))))
  have c_45 : M33.2.1 77 28 = (M.2.1 77 28) := (F_n F25 (show ¬ (6 ≤ 77 ∧ 77 ≤ 10) by decide) rfl)
  have t_46 : (M33.2.1 77 28).toInt = (M.2.1 77 28).toInt := congrArg Int32.toInt c_45
  have j_47 := (NJ_f (tg_609 F25) jNJ)
  have j_48 := (FA_f (tg_610 F25) jFA)
  have j_49 := (PLk_f (tg_611 F25) hs2.1)
  refine E_194 hX (dp1 hd (by decide)) hG26 j_47 j_48 j_49 (c := v13) (f := v17) (v := v21) (sg := sg) (fun r50 M57 hG52 F51 p_53 p_54 p_55 p_56 => ?_)
  have n_58 : M57.1.2.1 = M33.1.2.1 ∧ M57.1.2.2.1 = M33.1.2.2.1 := by rw [F51.1]; exact ⟨rfl, rfl⟩
  have b_60 := g_b hG52 (a := 77) (i := 29) (lo := 0) (hi := 150) rfl rfl
  have k_61 : (0 : Int32).toInt = 0 := rfl
  have k_62 : (1 : Int32).toInt = 1 := rfl
  have k_63 : (2 : Int32).toInt = 2 := rfl
  have k_64 : (3 : Int32).toInt = 3 := rfl
  have k_65 : (4 : Int32).toInt = 4 := rfl
  have k_66 : (5 : Int32).toInt = 5 := rfl
  have z_67 := AN_n hpz23 hpqz23 hs1 hs2 hn1 hn2 hn3 hn4 hn5 F25 (fun a i z => show ¬ (6 ≤ a ∧ a ≤ 10) by omega) F51 (fun a i z => show ¬ (a = 77 ∧ (i = 2 ∨ i = 29) ∨ 90 ≤ a ∧ a ≤ 93) by omega) p_32 p_56 (by omega) (by omega) (by omega) (by omega) (fun z9 => ⟨fun z => by omega, fun z => by omega, fun z => by omega, fun z => by omega, fun z => by omega⟩)
  refine to_popi (pc := 558) rw_0_558 (to_go (pc := 559) rw_0_559 ?_)
  have c_68 : M57.2.1 77 7 = (M.2.1 77 7) := (F_n F51 (show ¬ (77 = 77 ∧ (7 = 2 ∨ 7 = 29) ∨ 90 ≤ 77 ∧ 77 ≤ 93) by decide) (F_n F25 (show ¬ (6 ≤ 77 ∧ 77 ≤ 10) by decide) rfl))
  have t_69 : (M57.2.1 77 7).toInt = (M.2.1 77 7).toInt := congrArg Int32.toInt c_68
  have c_70 : M57.2.1 77 6 = (M.2.1 77 6) := (F_n F51 (show ¬ (77 = 77 ∧ (6 = 2 ∨ 6 = 29) ∨ 90 ≤ 77 ∧ 77 ≤ 93) by decide) (F_n F25 (show ¬ (6 ≤ 77 ∧ 77 ≤ 10) by decide) rfl))
  have t_71 : (M57.2.1 77 6).toInt = (M.2.1 77 6).toInt := congrArg Int32.toInt c_70
  have c_72 : M57.2.1 1 1 = (M.2.1 1 1) := (F_n F51 (show ¬ (1 = 77 ∧ (1 = 2 ∨ 1 = 29) ∨ 90 ≤ 1 ∧ 1 ≤ 93) by decide) (F_n F25 (show ¬ (6 ≤ 1 ∧ 1 ≤ 10) by decide) rfl))
  have t_73 : (M57.2.1 1 1).toInt = (M.2.1 1 1).toInt := congrArg Int32.toInt c_72
  have c_74 : M57.2.1 77 1 = (M.2.1 77 1) := (F_n F51 (show ¬ (77 = 77 ∧ (1 = 2 ∨ 1 = 29) ∨ 90 ≤ 77 ∧ 77 ≤ 93) by decide) (F_n F25 (show ¬ (6 ≤ 77 ∧ 77 ≤ 10) by decide) rfl))
  have t_75 : (M57.2.1 77 1).toInt = (M.2.1 77 1).toInt := congrArg Int32.toInt c_74
  have c_76 : M57.2.1 0 12 = (M.2.1 0 12) := (F_n F51 (show ¬ (0 = 77 ∧ (12 = 2 ∨ 12 = 29) ∨ 90 ≤ 0 ∧ 0 ≤ 93) by decide) (F_n F25 (show ¬ (6 ≤ 0 ∧ 0 ≤ 10) by decide) rfl))
  have t_77 : (M57.2.1 0 12).toInt = (M.2.1 0 12).toInt := congrArg Int32.toInt c_76
  have c_78 : M57.2.1 77 28 = (M.2.1 77 28) := (F_n F51 (show ¬ (77 = 77 ∧ (28 = 2 ∨ 28 = 29) ∨ 90 ≤ 77 ∧ 77 ≤ 93) by decide) c_45)
  have t_79 : (M57.2.1 77 28).toInt = (M.2.1 77 28).toInt := congrArg Int32.toInt c_78
  have c_80 : M57.2.1 17 4 = (M.2.1 17 4) := (F_n F51 (show ¬ (17 = 77 ∧ (4 = 2 ∨ 4 = 29) ∨ 90 ≤ 17 ∧ 17 ≤ 93) by decide) (F_n F25 (show ¬ (6 ≤ 17 ∧ 17 ≤ 10) by decide) rfl))
  have t_81 : (M57.2.1 17 4).toInt = (M.2.1 17 4).toInt := congrArg Int32.toInt c_80
  have c_82 : M57.2.1 77 41 = (M.2.1 77 41) := (F_n F51 (show ¬ (77 = 77 ∧ (41 = 2 ∨ 41 = 29) ∨ 90 ≤ 77 ∧ 77 ≤ 93) by decide) (F_n F25 (show ¬ (6 ≤ 77 ∧ 77 ≤ 10) by decide) rfl))
  have t_83 : (M57.2.1 77 41).toInt = (M.2.1 77 41).toInt := congrArg Int32.toInt c_82
  have c_84 : M57.2.1 6 0 = (M33.2.1 6 0) := (F_n F51 (show ¬ (6 = 77 ∧ (0 = 2 ∨ 0 = 29) ∨ 90 ≤ 6 ∧ 6 ≤ 93) by decide) rfl)
  have t_85 : (M57.2.1 6 0).toInt = (M33.2.1 6 0).toInt := congrArg Int32.toInt c_84
  have c_86 : M57.2.1 28 8 = (M.2.1 28 8) := (F_n F51 (show ¬ (28 = 77 ∧ (8 = 2 ∨ 8 = 29) ∨ 90 ≤ 28 ∧ 28 ≤ 93) by decide) (F_n F25 (show ¬ (6 ≤ 28 ∧ 28 ≤ 10) by decide) rfl))
  have t_87 : (M57.2.1 28 8).toInt = (M.2.1 28 8).toInt := congrArg Int32.toInt c_86
  have c_88 : M57.2.1 77 43 = (M.2.1 77 43) := (F_n F51 (show ¬ (77 = 77 ∧ (43 = 2 ∨ 43 = 29) ∨ 90 ≤ 77 ∧ 77 ≤ 93) by decide) (F_n F25 (show ¬ (6 ≤ 77 ∧ 77 ≤ 10) by decide) rfl))
  have t_89 : (M57.2.1 77 43).toInt = (M.2.1 77 43).toInt := congrArg Int32.toInt c_88
  have c_90 : M57.2.1 28 9 = (M.2.1 28 9) := (F_n F51 (show ¬ (28 = 77 ∧ (9 = 2 ∨ 9 = 29) ∨ 90 ≤ 28 ∧ 28 ≤ 93) by decide) (F_n F25 (show ¬ (6 ≤ 28 ∧ 28 ≤ 10) by decide) rfl))
  have t_91 : (M57.2.1 28 9).toInt = (M.2.1 28 9).toInt := congrArg Int32.toInt c_90
  have c_92 : M57.2.1 77 42 = (M.2.1 77 42) := (F_n F51 (show ¬ (77 = 77 ∧ (42 = 2 ∨ 42 = 29) ∨ 90 ≤ 77 ∧ 77 ≤ 93) by decide) (F_n F25 (show ¬ (6 ≤ 77 ∧ 77 ≤ 10) by decide) rfl))
  have t_93 : (M57.2.1 77 42).toInt = (M.2.1 77 42).toInt := congrArg Int32.toInt c_92
  have j_94 := (PI_f (tg_612 F51) p_28)
  have j_95 := (NI_f (tg_613 F51) p_27)
  have j_96 := (QI_f (tg_614 F51) p_29)
  have j_97 := (PQE_r F51.2.1 (PQE_r F25.2.1 jPQE))
  have j_98 := (FA_f (tg_615 F51) j_48)
  have j_99 := (WC_f (tg_616 F51) (WC_f (tg_617 F25) jWC))
  have j_100 := (PS_f (tg_618 F51) (PS_f (tg_619 F25) jPS))
  have j_101 := (KQ_f (tg_620 F51) (KQ_f (tg_621 F25) jKQ))
  have j_102 := (TP_f (tg_622 F51) (TP_f (tg_623 F25) jTP))
  have j_103 := (W9_f (tg_624 F51) (W9_f (tg_625 F25) jW9))
  have j_104 := (KNA_F F51 (fun a i z => show ¬ (a = 77 ∧ (i = 2 ∨ i = 29) ∨ 90 ≤ a ∧ a ≤ 93) by omega) (KNA_F F25 (fun a i z => show ¬ (6 ≤ a ∧ a ≤ 10) by omega) jKNA))
  have j_105 := (NE_r F51.2.1 (NE_r F25.2.1 jNE))
  have j_106 := (W8_f (tg_626 F51) (W8_f (tg_627 F25) jW8))
  exact h M57 (u5) (u6) ⟨⟨⟨⟨⟨⟨⟨⟨⟨hG52, ⟨j_94, j_95, j_96, j_97⟩, ⟨j_98, j_99, p_53, j_100, j_101⟩, by omega, by omega⟩, j_102, j_103⟩, j_105, by omega⟩, AN_a z_67⟩, by omega⟩, j_106⟩, by omega⟩, z_67⟩, j_104, by omega, by omega⟩ (by omega) (by omega)
set_option maxRecDepth 4000 in
set_option maxHeartbeats 0 in
theorem LW_11 {X : mm_X} {d L : Nat} {M : mm_M} {Q : Option Value → mm_M → Prop} {i : Int32} {u5 u6 : Value} (hX : g_X X) (hW : g_W X) (hW2 : g_W2 X) (hL : (X 0).1 = L) (h3 : L ≤ 3072) (hd : 40 ≤ d) (hi : 0 ≤ i.toInt) (hi2 : i.toInt + 6 ≤ (L : Int)) (H : LI10 M) (h : ∀ (M1 : mm_M) (v5 v6 : Value), LI10 M1 → M1.1.2.1 ≤ M.1.2.1 + 1 → M1.1.2.2.1 ≤ M.1.2.2.1 + 6 → mm_T X d 0 1313 [.ref mm_ext, .ref 0, .ref 77, .ref 125, .int i, v5, v6] [] M1 Q) : mm_T X d 0 562 [.ref mm_ext, .ref 0, .ref 77, .ref 125, .int i, u5, u6] [] M Q := by
  obtain ⟨⟨⟨⟨⟨⟨⟨⟨⟨hG, ⟨jPI, jNI, jQI, jPQE⟩, ⟨jFA, jWC, jNJ, jPS, jKQ⟩, jJ, jE⟩, jTP, jW9⟩, jNE, jCC⟩, -⟩, jOV⟩, jW8⟩, jNN⟩, jAN⟩, jKNA, jDN, jPN⟩ := H
  have b_1 := g_b hG (a := 77) (i := 7) (lo := 0) (hi := 500) rfl rfl
  have b_2 := g_b hG (a := 77) (i := 6) (lo := 0) (hi := 500) rfl rfl
  have b_3 := g_b hG (a := 1) (i := 1) (lo := 0) (hi := 500) rfl rfl
  have b_4 := g_b hG (a := 77) (i := 1) (lo := 0) (hi := 500) rfl rfl
  have b_5 := g_b hG (a := 0) (i := 12) (lo := 0) (hi := 30) rfl rfl
  have b_6 := g_b hG (a := 77) (i := 28) (lo := 0) (hi := 30) rfl rfl
  have b_7 := g_b hG (a := 6) (i := 0) (lo := 0) (hi := 150) rfl rfl
  have b_8 := g_b hG (a := 77) (i := 29) (lo := 0) (hi := 150) rfl rfl
  have b_9 := g_b hG (a := 28) (i := 8) (lo := 0) (hi := 3000) rfl rfl
  have b_10 := g_b hG (a := 77) (i := 43) (lo := 0) (hi := 3000) rfl rfl
  refine to_an (pc := 562) rw_0_562 rfl (to_an (pc := 563) rw_0_563 rfl (to_i (pc := 564) rw_0_564 rfl (to_c (pc := 566) rw_0_566 (x := (1 : Int32)) rfl rfl (s_add (pc := 567) rw_0_567 (A := i.toInt) (B := 1) rfl rfl (by omega) (fun v11 e12 => s_x0 (pc := 568) rw_0_568 hL (A := v11.toInt) rfl (by omega) (by omega) (fun v13 e14 => to_an (pc := 569) rw_0_569 rfl (to_i (pc := 570) rw_0_570 rfl (to_c (pc := 572) rw_0_572 (x := (2 : Int32)) rfl rfl (s_add (pc := 573) rw_0_573 (A := i.toInt) (B := 2) rfl rfl (by omega) (fun v15 e16 => s_x0 (pc := 574) rw_0_574 hL (A := v15.toInt) rfl (by omega) (by omega) (fun v17 e18 => s_v (pc := 575) rw_0_575 (dp0 hd (by decide)) (ls0 := [.ref 0, .int v13, .int v17]) rfl (Nat.le_of_ble_eq_true rfl) (Nat.le_of_ble_eq_true rfl) rfl (to_rc rfl rfl rfl (g_o hG rfl)) rfl ?_)))))))))))
  obtain ⟨pz19, pzz19, qz19, qzz19, hpz19, hpzz19, hqz19, hqzz19, hpqz19⟩ := id jPQE
  obtain ⟨sg, NN, nz, ca, hs1, hs2, hn1, hn2, hn3, hn4, hn5⟩ := AN_u jAN hpqz19
  refine E_120 hX (dp1 hd (by decide)) hG hpz19 hpzz19 hqz19 hqzz19 hpqz19 jNI jPI jQI hs1.1 (c := v13) (w := v17) (sg := sg) (p := pz19) (pz := pzz19) (q := qz19) (qz := qzz19) (fun r20 M29 hG22 F21 p_23 p_24 p_25 p_26 p_27 p_28 => ?_)
  have n_30 : M29.1.2.1 = M.1.2.1 ∧ M29.1.2.2.1 = M.1.2.2.1 := by rw [F21.1]; exact ⟨rfl, rfl⟩
  have b_32 := g_b hG22 (a := 6) (i := 0) (lo := 0) (hi := 150) rfl rfl
  have c_33 : M29.2.1 77 29 = (M.2.1 77 29) := (F_n F21 (show ¬ (6 ≤ 77 ∧ 77 ≤ 10) by decide) rfl)
  have t_34 : (M29.2.1 77 29).toInt = (M.2.1 77 29).toInt := congrArg Int32.toInt c_33
  refine to_popi (pc := 578) rw_0_578 (to_an (pc := 579) rw_0_579 rfl (to_an (pc := 580) rw_0_580 rfl (to_i (pc := 581) rw_0_581 rfl (to_c (pc := 583) rw_0_583 (x := (1 : Int32)) rfl rfl (s_addk (pc := 584) rw_0_584 (A := i.toInt) (B := 1) rfl rfl (by omega) (v := v11) e12 (s_x0k (pc := 585) rw_0_585 hL (A := v11.toInt) rfl (by omega) (by omega) (v := v13) e14 (to_an (pc := 586) rw_0_586 rfl (to_i (pc := 587) rw_0_587 rfl (to_c (pc := 589) rw_0_589 (x := (2 : Int32)) rfl rfl (s_addk (pc := 590) rw_0_590 (A := i.toInt) (B := 2) rfl rfl (by omega) (v := v15) e16 (s_x0k (pc := 591) rw_0_591 hL (A := v15.toInt) rfl (by omega) (by omega) (v := v17) e18 ?_)))))))))))
  refine s_v (pc := 592) rw_0_592 (dp0 hd (by decide)) (ls0 := [.ref 77, .int v13, .int v17]) rfl (Nat.le_of_ble_eq_true rfl) (Nat.le_of_ble_eq_true rfl) rfl (to_rc rfl rfl rfl (g_o hG22 rfl)) rfl ?_
  have c_39 : M29.2.1 77 28 = (M.2.1 77 28) := (F_n F21 (show ¬ (6 ≤ 77 ∧ 77 ≤ 10) by decide) rfl)
  have t_40 : (M29.2.1 77 28).toInt = (M.2.1 77 28).toInt := congrArg Int32.toInt c_39
  have j_41 := (NJ_f (tg_609 F21) jNJ)
  have j_42 := (PLk_f (tg_611 F21) hs2.1)
  refine E_195 hX (dp1 hd (by decide)) hG22 j_41 j_42 (c := v13) (w := v17) (sg := sg) (fun r43 M50 hG45 F44 p_46 p_47 p_48 p_49 => ?_)
  have n_51 : M50.1.2.1 = M29.1.2.1 ∧ M50.1.2.2.1 = M29.1.2.2.1 := by rw [F44.1]; exact ⟨rfl, rfl⟩
  have b_53 := g_b hG45 (a := 77) (i := 29) (lo := 0) (hi := 150) rfl rfl
  have k_54 : (0 : Int32).toInt = 0 := rfl
  have k_55 : (1 : Int32).toInt = 1 := rfl
  have k_56 : (2 : Int32).toInt = 2 := rfl
  have k_57 : (3 : Int32).toInt = 3 := rfl
  have k_58 : (4 : Int32).toInt = 4 := rfl
  have k_59 : (5 : Int32).toInt = 5 := rfl
  have z_60 := AN_n hpz19 hpqz19 hs1 hs2 hn1 hn2 hn3 hn4 hn5 F21 (fun a i z => show ¬ (6 ≤ a ∧ a ≤ 10) by omega) F44 (fun a i z => show ¬ (a = 77 ∧ (i = 2 ∨ i = 29) ∨ 90 ≤ a ∧ a ≤ 93) by omega) p_28 p_49 (by omega) (by omega) (by omega) (by omega) (fun z9 => ⟨fun z => by omega, fun z => by omega, fun z => by omega, fun z => by omega, fun z => by omega⟩)
  refine to_popi (pc := 595) rw_0_595 (to_go (pc := 596) rw_0_596 ?_)
  have c_61 : M50.2.1 77 7 = (M.2.1 77 7) := (F_n F44 (show ¬ (77 = 77 ∧ (7 = 2 ∨ 7 = 29) ∨ 90 ≤ 77 ∧ 77 ≤ 93) by decide) (F_n F21 (show ¬ (6 ≤ 77 ∧ 77 ≤ 10) by decide) rfl))
  have t_62 : (M50.2.1 77 7).toInt = (M.2.1 77 7).toInt := congrArg Int32.toInt c_61
  have c_63 : M50.2.1 77 6 = (M.2.1 77 6) := (F_n F44 (show ¬ (77 = 77 ∧ (6 = 2 ∨ 6 = 29) ∨ 90 ≤ 77 ∧ 77 ≤ 93) by decide) (F_n F21 (show ¬ (6 ≤ 77 ∧ 77 ≤ 10) by decide) rfl))
  have t_64 : (M50.2.1 77 6).toInt = (M.2.1 77 6).toInt := congrArg Int32.toInt c_63
  have c_65 : M50.2.1 1 1 = (M.2.1 1 1) := (F_n F44 (show ¬ (1 = 77 ∧ (1 = 2 ∨ 1 = 29) ∨ 90 ≤ 1 ∧ 1 ≤ 93) by decide) (F_n F21 (show ¬ (6 ≤ 1 ∧ 1 ≤ 10) by decide) rfl))
  have t_66 : (M50.2.1 1 1).toInt = (M.2.1 1 1).toInt := congrArg Int32.toInt c_65
  have c_67 : M50.2.1 77 1 = (M.2.1 77 1) := (F_n F44 (show ¬ (77 = 77 ∧ (1 = 2 ∨ 1 = 29) ∨ 90 ≤ 77 ∧ 77 ≤ 93) by decide) (F_n F21 (show ¬ (6 ≤ 77 ∧ 77 ≤ 10) by decide) rfl))
  have t_68 : (M50.2.1 77 1).toInt = (M.2.1 77 1).toInt := congrArg Int32.toInt c_67
  have c_69 : M50.2.1 0 12 = (M.2.1 0 12) := (F_n F44 (show ¬ (0 = 77 ∧ (12 = 2 ∨ 12 = 29) ∨ 90 ≤ 0 ∧ 0 ≤ 93) by decide) (F_n F21 (show ¬ (6 ≤ 0 ∧ 0 ≤ 10) by decide) rfl))
  have t_70 : (M50.2.1 0 12).toInt = (M.2.1 0 12).toInt := congrArg Int32.toInt c_69
  have c_71 : M50.2.1 77 28 = (M.2.1 77 28) := (F_n F44 (show ¬ (77 = 77 ∧ (28 = 2 ∨ 28 = 29) ∨ 90 ≤ 77 ∧ 77 ≤ 93) by decide) c_39)
  have t_72 : (M50.2.1 77 28).toInt = (M.2.1 77 28).toInt := congrArg Int32.toInt c_71
  have c_73 : M50.2.1 17 4 = (M.2.1 17 4) := (F_n F44 (show ¬ (17 = 77 ∧ (4 = 2 ∨ 4 = 29) ∨ 90 ≤ 17 ∧ 17 ≤ 93) by decide) (F_n F21 (show ¬ (6 ≤ 17 ∧ 17 ≤ 10) by decide) rfl))
  have t_74 : (M50.2.1 17 4).toInt = (M.2.1 17 4).toInt := congrArg Int32.toInt c_73
  have c_75 : M50.2.1 77 41 = (M.2.1 77 41) := (F_n F44 (show ¬ (77 = 77 ∧ (41 = 2 ∨ 41 = 29) ∨ 90 ≤ 77 ∧ 77 ≤ 93) by decide) (F_n F21 (show ¬ (6 ≤ 77 ∧ 77 ≤ 10) by decide) rfl))
  have t_76 : (M50.2.1 77 41).toInt = (M.2.1 77 41).toInt := congrArg Int32.toInt c_75
  have c_77 : M50.2.1 6 0 = (M29.2.1 6 0) := (F_n F44 (show ¬ (6 = 77 ∧ (0 = 2 ∨ 0 = 29) ∨ 90 ≤ 6 ∧ 6 ≤ 93) by decide) rfl)
  have t_78 : (M50.2.1 6 0).toInt = (M29.2.1 6 0).toInt := congrArg Int32.toInt c_77
  have c_79 : M50.2.1 28 8 = (M.2.1 28 8) := (F_n F44 (show ¬ (28 = 77 ∧ (8 = 2 ∨ 8 = 29) ∨ 90 ≤ 28 ∧ 28 ≤ 93) by decide) (F_n F21 (show ¬ (6 ≤ 28 ∧ 28 ≤ 10) by decide) rfl))
  have t_80 : (M50.2.1 28 8).toInt = (M.2.1 28 8).toInt := congrArg Int32.toInt c_79
  have c_81 : M50.2.1 77 43 = (M.2.1 77 43) := (F_n F44 (show ¬ (77 = 77 ∧ (43 = 2 ∨ 43 = 29) ∨ 90 ≤ 77 ∧ 77 ≤ 93) by decide) (F_n F21 (show ¬ (6 ≤ 77 ∧ 77 ≤ 10) by decide) rfl))
  have t_82 : (M50.2.1 77 43).toInt = (M.2.1 77 43).toInt := congrArg Int32.toInt c_81
  have c_83 : M50.2.1 28 9 = (M.2.1 28 9) := (F_n F44 (show ¬ (28 = 77 ∧ (9 = 2 ∨ 9 = 29) ∨ 90 ≤ 28 ∧ 28 ≤ 93) by decide) (F_n F21 (show ¬ (6 ≤ 28 ∧ 28 ≤ 10) by decide) rfl))
  have t_84 : (M50.2.1 28 9).toInt = (M.2.1 28 9).toInt := congrArg Int32.toInt c_83
  have c_85 : M50.2.1 77 42 = (M.2.1 77 42) := (F_n F44 (show ¬ (77 = 77 ∧ (42 = 2 ∨ 42 = 29) ∨ 90 ≤ 77 ∧ 77 ≤ 93) by decide) (F_n F21 (show ¬ (6 ≤ 77 ∧ 77 ≤ 10) by decide) rfl))
  have t_86 : (M50.2.1 77 42).toInt = (M.2.1 77 42).toInt := congrArg Int32.toInt c_85
  have j_87 := (PI_f (tg_612 F44) p_24)
  have j_88 := (NI_f (tg_613 F44) p_23)
  have j_89 := (QI_f (tg_614 F44) p_25)
  have j_90 := (PQE_r F44.2.1 (PQE_r F21.2.1 jPQE))
  have j_91 := (FA_f (tg_615 F44) (FA_f (tg_610 F21) jFA))
  have j_92 := (WC_f (tg_616 F44) (WC_f (tg_617 F21) jWC))
  have j_93 := (PS_f (tg_618 F44) (PS_f (tg_619 F21) jPS))
  have j_94 := (KQ_f (tg_620 F44) (KQ_f (tg_621 F21) jKQ))
  have j_95 := (TP_f (tg_622 F44) (TP_f (tg_623 F21) jTP))
  have j_96 := (W9_f (tg_624 F44) (W9_f (tg_625 F21) jW9))
  have j_97 := (KNA_F F44 (fun a i z => show ¬ (a = 77 ∧ (i = 2 ∨ i = 29) ∨ 90 ≤ a ∧ a ≤ 93) by omega) (KNA_F F21 (fun a i z => show ¬ (6 ≤ a ∧ a ≤ 10) by omega) jKNA))
  have j_98 := (NE_r F44.2.1 (NE_r F21.2.1 jNE))
  have j_99 := (W8_f (tg_626 F44) (W8_f (tg_627 F21) jW8))
  exact h M50 (u5) (u6) ⟨⟨⟨⟨⟨⟨⟨⟨⟨hG45, ⟨j_87, j_88, j_89, j_90⟩, ⟨j_91, j_92, p_46, j_93, j_94⟩, by omega, by omega⟩, j_95, j_96⟩, j_98, by omega⟩, AN_a z_60⟩, by omega⟩, j_99⟩, by omega⟩, z_60⟩, j_97, by omega, by omega⟩ (by omega) (by omega)
set_option maxRecDepth 4000 in
set_option maxHeartbeats 0 in
theorem LW_12 {X : mm_X} {d L : Nat} {M : mm_M} {Q : Option Value → mm_M → Prop} {i : Int32} {u5 u6 : Value} (hX : g_X X) (hW : g_W X) (hW2 : g_W2 X) (hL : (X 0).1 = L) (h3 : L ≤ 3072) (hd : 40 ≤ d) (hi : 0 ≤ i.toInt) (hi2 : i.toInt + 6 ≤ (L : Int)) (H : LI10 M) (h : ∀ (M1 : mm_M) (v5 v6 : Value), LI10 M1 → M1.1.2.1 ≤ M.1.2.1 + 1 → M1.1.2.2.1 ≤ M.1.2.2.1 + 6 → mm_T X d 0 1313 [.ref mm_ext, .ref 0, .ref 77, .ref 125, .int i, v5, v6] [] M1 Q) : mm_T X d 0 599 [.ref mm_ext, .ref 0, .ref 77, .ref 125, .int i, u5, u6] [] M Q := by
  obtain ⟨⟨⟨⟨⟨⟨⟨⟨⟨hG, ⟨jPI, jNI, jQI, jPQE⟩, ⟨jFA, jWC, jNJ, jPS, jKQ⟩, jJ, jE⟩, jTP, jW9⟩, jNE, jCC⟩, -⟩, jOV⟩, jW8⟩, jNN⟩, jAN⟩, jKNA, jDN, jPN⟩ := H
  have b_1 := g_b hG (a := 77) (i := 7) (lo := 0) (hi := 500) rfl rfl
  have b_2 := g_b hG (a := 77) (i := 6) (lo := 0) (hi := 500) rfl rfl
  have b_3 := g_b hG (a := 1) (i := 1) (lo := 0) (hi := 500) rfl rfl
  have b_4 := g_b hG (a := 77) (i := 1) (lo := 0) (hi := 500) rfl rfl
  have b_5 := g_b hG (a := 0) (i := 12) (lo := 0) (hi := 30) rfl rfl
  have b_6 := g_b hG (a := 77) (i := 28) (lo := 0) (hi := 30) rfl rfl
  have b_7 := g_b hG (a := 6) (i := 0) (lo := 0) (hi := 150) rfl rfl
  have b_8 := g_b hG (a := 77) (i := 29) (lo := 0) (hi := 150) rfl rfl
  have b_9 := g_b hG (a := 28) (i := 8) (lo := 0) (hi := 3000) rfl rfl
  have b_10 := g_b hG (a := 77) (i := 43) (lo := 0) (hi := 3000) rfl rfl
  refine to_an (pc := 599) rw_0_599 rfl (to_an (pc := 600) rw_0_600 rfl (to_i (pc := 601) rw_0_601 rfl (to_c (pc := 603) rw_0_603 (x := (1 : Int32)) rfl rfl (s_add (pc := 604) rw_0_604 (A := i.toInt) (B := 1) rfl rfl (by omega) (fun v11 e12 => s_x0 (pc := 605) rw_0_605 hL (A := v11.toInt) rfl (by omega) (by omega) (fun v13 e14 => to_an (pc := 606) rw_0_606 rfl (to_i (pc := 607) rw_0_607 rfl (to_c (pc := 609) rw_0_609 (x := (2 : Int32)) rfl rfl (s_add (pc := 610) rw_0_610 (A := i.toInt) (B := 2) rfl rfl (by omega) (fun v15 e16 => s_x0 (pc := 611) rw_0_611 hL (A := v15.toInt) rfl (by omega) (by omega) (fun v17 e18 => to_an (pc := 612) rw_0_612 rfl ?_)))))))))))
  refine to_i (pc := 613) rw_0_613 rfl (to_c (pc := 615) rw_0_615 (x := (3 : Int32)) rfl rfl (s_add (pc := 616) rw_0_616 (A := i.toInt) (B := 3) rfl rfl (by omega) (fun v19 e20 => s_x0 (pc := 617) rw_0_617 hL (A := v19.toInt) rfl (by omega) (by omega) (fun v21 e22 => b_ieq (pc := 618) rw_0_618 (A := v21.toInt) rfl (fun h23 => ?_) (fun h23 => ?_)))))
  · refine to_c (pc := 625) rw_0_625 (x := (0 : Int32)) rfl rfl (s_v (pc := 626) rw_0_626 (dp0 hd (by decide)) (ls0 := [.ref 0, .int v13, .int v17, .int (0 : Int32)]) rfl (Nat.le_of_ble_eq_true rfl) (Nat.le_of_ble_eq_true rfl) rfl (to_rc rfl rfl rfl (g_o hG rfl)) rfl ?_)
    have k_24 : (0 : Int32).toInt = 0 := rfl
    obtain ⟨pz25, pzz25, qz25, qzz25, hpz25, hpzz25, hqz25, hqzz25, hpqz25⟩ := id jPQE
    obtain ⟨sg, NN, nz, ca, hs1, hs2, hn1, hn2, hn3, hn4, hn5⟩ := AN_u jAN hpqz25
    refine E_121 hX (dp1 hd (by decide)) hG hpz25 hpzz25 hqz25 hqzz25 hpqz25 (by omega) (by omega) jNI jPI jQI hs1.1 (c := v13) (e := v17) (m := (0 : Int32)) (sg := sg) (p := pz25) (pz := pzz25) (q := qz25) (qz := qzz25) (fun r26 M35 hG28 F27 p_29 p_30 p_31 p_32 p_33 p_34 => ?_)
    have n_36 : M35.1.2.1 = M.1.2.1 ∧ M35.1.2.2.1 = M.1.2.2.1 := by rw [F27.1]; exact ⟨rfl, rfl⟩
    have b_38 := g_b hG28 (a := 6) (i := 0) (lo := 0) (hi := 150) rfl rfl
    have c_39 : M35.2.1 77 29 = (M.2.1 77 29) := (F_n F27 (show ¬ (6 ≤ 77 ∧ 77 ≤ 10) by decide) rfl)
    have t_40 : (M35.2.1 77 29).toInt = (M.2.1 77 29).toInt := congrArg Int32.toInt c_39
    refine to_popi (pc := 629) rw_0_629 (to_an (pc := 630) rw_0_630 rfl (to_an (pc := 631) rw_0_631 rfl (to_i (pc := 632) rw_0_632 rfl (to_c (pc := 634) rw_0_634 (x := (1 : Int32)) rfl rfl (s_addk (pc := 635) rw_0_635 (A := i.toInt) (B := 1) rfl rfl (by omega) (v := v11) e12 (s_x0k (pc := 636) rw_0_636 hL (A := v11.toInt) rfl (by omega) (by omega) (v := v13) e14 (to_an (pc := 637) rw_0_637 rfl (to_i (pc := 638) rw_0_638 rfl (to_c (pc := 640) rw_0_640 (x := (2 : Int32)) rfl rfl (s_addk (pc := 641) rw_0_641 (A := i.toInt) (B := 2) rfl rfl (by omega) (v := v15) e16 (s_x0k (pc := 642) rw_0_642 hL (A := v15.toInt) rfl (by omega) (by omega) (v := v17) e18 ?_)))))))))))
    refine to_an (pc := 643) rw_0_643 rfl (to_i (pc := 644) rw_0_644 rfl (to_c (pc := 646) rw_0_646 (x := (3 : Int32)) rfl rfl (s_addk (pc := 647) rw_0_647 (A := i.toInt) (B := 3) rfl rfl (by omega) (v := v19) e20 (s_x0k (pc := 648) rw_0_648 hL (A := v19.toInt) rfl (by omega) (by omega) (v := v21) e22 (b_ieq_t (pc := 649) rw_0_649 (A := v21.toInt) rfl (by omega) (to_c (pc := 656) rw_0_656 (x := (0 : Int32)) rfl rfl (s_v (pc := 657) rw_0_657 (dp0 hd (by decide)) (ls0 := [.ref 77, .int v13, .int v17, .int (0 : Int32)]) rfl (Nat.le_of_ble_eq_true rfl) (Nat.le_of_ble_eq_true rfl) rfl (to_rc rfl rfl rfl (g_o hG28 rfl)) rfl ?_)))))))
    have c_47 : M35.2.1 77 28 = (M.2.1 77 28) := (F_n F27 (show ¬ (6 ≤ 77 ∧ 77 ≤ 10) by decide) rfl)
    have t_48 : (M35.2.1 77 28).toInt = (M.2.1 77 28).toInt := congrArg Int32.toInt c_47
    have j_49 := (NJ_f (tg_609 F27) jNJ)
    have j_50 := (PLk_f (tg_611 F27) hs2.1)
    refine E_196 hX (dp1 hd (by decide)) hG28 (by omega) (by omega) j_49 j_50 (c := v13) (e := v17) (m := (0 : Int32)) (sg := sg) (fun r51 M58 hG53 F52 p_54 p_55 p_56 p_57 => ?_)
    have n_59 : M58.1.2.1 = M35.1.2.1 ∧ M58.1.2.2.1 = M35.1.2.2.1 := by rw [F52.1]; exact ⟨rfl, rfl⟩
    have b_61 := g_b hG53 (a := 77) (i := 29) (lo := 0) (hi := 150) rfl rfl
    have k_62 : (1 : Int32).toInt = 1 := rfl
    have k_63 : (2 : Int32).toInt = 2 := rfl
    have k_64 : (3 : Int32).toInt = 3 := rfl
    have k_65 : (4 : Int32).toInt = 4 := rfl
    have k_66 : (5 : Int32).toInt = 5 := rfl
    have z_67 := x_tk_b (0 : Int32)
    have z_68 := AN_n hpz25 hpqz25 hs1 hs2 hn1 hn2 hn3 hn4 hn5 F27 (fun a i z => show ¬ (6 ≤ a ∧ a ≤ 10) by omega) F52 (fun a i z => show ¬ (a = 77 ∧ (i = 2 ∨ i = 29) ∨ 90 ≤ a ∧ a ≤ 93) by omega) p_34 p_57 (by omega) (by omega) (by omega) (by omega) (fun z9 => ⟨fun z => by omega, fun z => by omega, fun z => by omega, fun z => by omega, fun z => by omega⟩)
    refine to_popi (pc := 660) rw_0_660 (to_go (pc := 661) rw_0_661 ?_)
    have c_69 : M58.2.1 77 7 = (M.2.1 77 7) := (F_n F52 (show ¬ (77 = 77 ∧ (7 = 2 ∨ 7 = 29) ∨ 90 ≤ 77 ∧ 77 ≤ 93) by decide) (F_n F27 (show ¬ (6 ≤ 77 ∧ 77 ≤ 10) by decide) rfl))
    have t_70 : (M58.2.1 77 7).toInt = (M.2.1 77 7).toInt := congrArg Int32.toInt c_69
    have c_71 : M58.2.1 77 6 = (M.2.1 77 6) := (F_n F52 (show ¬ (77 = 77 ∧ (6 = 2 ∨ 6 = 29) ∨ 90 ≤ 77 ∧ 77 ≤ 93) by decide) (F_n F27 (show ¬ (6 ≤ 77 ∧ 77 ≤ 10) by decide) rfl))
    have t_72 : (M58.2.1 77 6).toInt = (M.2.1 77 6).toInt := congrArg Int32.toInt c_71
    have c_73 : M58.2.1 1 1 = (M.2.1 1 1) := (F_n F52 (show ¬ (1 = 77 ∧ (1 = 2 ∨ 1 = 29) ∨ 90 ≤ 1 ∧ 1 ≤ 93) by decide) (F_n F27 (show ¬ (6 ≤ 1 ∧ 1 ≤ 10) by decide) rfl))
    have t_74 : (M58.2.1 1 1).toInt = (M.2.1 1 1).toInt := congrArg Int32.toInt c_73
    have c_75 : M58.2.1 77 1 = (M.2.1 77 1) := (F_n F52 (show ¬ (77 = 77 ∧ (1 = 2 ∨ 1 = 29) ∨ 90 ≤ 77 ∧ 77 ≤ 93) by decide) (F_n F27 (show ¬ (6 ≤ 77 ∧ 77 ≤ 10) by decide) rfl))
    have t_76 : (M58.2.1 77 1).toInt = (M.2.1 77 1).toInt := congrArg Int32.toInt c_75
    have c_77 : M58.2.1 0 12 = (M.2.1 0 12) := (F_n F52 (show ¬ (0 = 77 ∧ (12 = 2 ∨ 12 = 29) ∨ 90 ≤ 0 ∧ 0 ≤ 93) by decide) (F_n F27 (show ¬ (6 ≤ 0 ∧ 0 ≤ 10) by decide) rfl))
    have t_78 : (M58.2.1 0 12).toInt = (M.2.1 0 12).toInt := congrArg Int32.toInt c_77
    have c_79 : M58.2.1 77 28 = (M.2.1 77 28) := (F_n F52 (show ¬ (77 = 77 ∧ (28 = 2 ∨ 28 = 29) ∨ 90 ≤ 77 ∧ 77 ≤ 93) by decide) c_47)
    have t_80 : (M58.2.1 77 28).toInt = (M.2.1 77 28).toInt := congrArg Int32.toInt c_79
    have c_81 : M58.2.1 17 4 = (M.2.1 17 4) := (F_n F52 (show ¬ (17 = 77 ∧ (4 = 2 ∨ 4 = 29) ∨ 90 ≤ 17 ∧ 17 ≤ 93) by decide) (F_n F27 (show ¬ (6 ≤ 17 ∧ 17 ≤ 10) by decide) rfl))
    have t_82 : (M58.2.1 17 4).toInt = (M.2.1 17 4).toInt := congrArg Int32.toInt c_81
    have c_83 : M58.2.1 77 41 = (M.2.1 77 41) := (F_n F52 (show ¬ (77 = 77 ∧ (41 = 2 ∨ 41 = 29) ∨ 90 ≤ 77 ∧ 77 ≤ 93) by decide) (F_n F27 (show ¬ (6 ≤ 77 ∧ 77 ≤ 10) by decide) rfl))
    have t_84 : (M58.2.1 77 41).toInt = (M.2.1 77 41).toInt := congrArg Int32.toInt c_83
    have c_85 : M58.2.1 6 0 = (M35.2.1 6 0) := (F_n F52 (show ¬ (6 = 77 ∧ (0 = 2 ∨ 0 = 29) ∨ 90 ≤ 6 ∧ 6 ≤ 93) by decide) rfl)
    have t_86 : (M58.2.1 6 0).toInt = (M35.2.1 6 0).toInt := congrArg Int32.toInt c_85
    have c_87 : M58.2.1 28 8 = (M.2.1 28 8) := (F_n F52 (show ¬ (28 = 77 ∧ (8 = 2 ∨ 8 = 29) ∨ 90 ≤ 28 ∧ 28 ≤ 93) by decide) (F_n F27 (show ¬ (6 ≤ 28 ∧ 28 ≤ 10) by decide) rfl))
    have t_88 : (M58.2.1 28 8).toInt = (M.2.1 28 8).toInt := congrArg Int32.toInt c_87
    have c_89 : M58.2.1 77 43 = (M.2.1 77 43) := (F_n F52 (show ¬ (77 = 77 ∧ (43 = 2 ∨ 43 = 29) ∨ 90 ≤ 77 ∧ 77 ≤ 93) by decide) (F_n F27 (show ¬ (6 ≤ 77 ∧ 77 ≤ 10) by decide) rfl))
    have t_90 : (M58.2.1 77 43).toInt = (M.2.1 77 43).toInt := congrArg Int32.toInt c_89
    have c_91 : M58.2.1 28 9 = (M.2.1 28 9) := (F_n F52 (show ¬ (28 = 77 ∧ (9 = 2 ∨ 9 = 29) ∨ 90 ≤ 28 ∧ 28 ≤ 93) by decide) (F_n F27 (show ¬ (6 ≤ 28 ∧ 28 ≤ 10) by decide) rfl))
    have t_92 : (M58.2.1 28 9).toInt = (M.2.1 28 9).toInt := congrArg Int32.toInt c_91
    have c_93 : M58.2.1 77 42 = (M.2.1 77 42) := (F_n F52 (show ¬ (77 = 77 ∧ (42 = 2 ∨ 42 = 29) ∨ 90 ≤ 77 ∧ 77 ≤ 93) by decide) (F_n F27 (show ¬ (6 ≤ 77 ∧ 77 ≤ 10) by decide) rfl))
    have t_94 : (M58.2.1 77 42).toInt = (M.2.1 77 42).toInt := congrArg Int32.toInt c_93
    have j_95 := (PI_f (tg_612 F52) p_30)
    have j_96 := (NI_f (tg_613 F52) p_29)
    have j_97 := (QI_f (tg_614 F52) p_31)
    have j_98 := (PQE_r F52.2.1 (PQE_r F27.2.1 jPQE))
    have j_99 := (FA_f (tg_615 F52) (FA_f (tg_610 F27) jFA))
    have j_100 := (WC_f (tg_616 F52) (WC_f (tg_617 F27) jWC))
    have j_101 := (PS_f (tg_618 F52) (PS_f (tg_619 F27) jPS))
    have j_102 := (KQ_f (tg_620 F52) (KQ_f (tg_621 F27) jKQ))
    have j_103 := (TP_f (tg_622 F52) (TP_f (tg_623 F27) jTP))
    have j_104 := (W9_f (tg_624 F52) (W9_f (tg_625 F27) jW9))
    have j_105 := (KNA_F F52 (fun a i z => show ¬ (a = 77 ∧ (i = 2 ∨ i = 29) ∨ 90 ≤ a ∧ a ≤ 93) by omega) (KNA_F F27 (fun a i z => show ¬ (6 ≤ a ∧ a ≤ 10) by omega) jKNA))
    have j_106 := (NE_r F52.2.1 (NE_r F27.2.1 jNE))
    have j_107 := (W8_f (tg_626 F52) (W8_f (tg_627 F27) jW8))
    exact h M58 (u5) (u6) ⟨⟨⟨⟨⟨⟨⟨⟨⟨hG53, ⟨j_95, j_96, j_97, j_98⟩, ⟨j_99, j_100, p_54, j_101, j_102⟩, by omega, by omega⟩, j_103, j_104⟩, j_106, by omega⟩, AN_a z_68⟩, by omega⟩, j_107⟩, by omega⟩, z_68⟩, j_105, by omega, by omega⟩ (by omega) (by omega)
  · refine to_c (pc := 621) rw_0_621 (x := (1 : Int32)) rfl rfl (to_go (pc := 622) rw_0_622 (s_v (pc := 626) rw_0_626 (dp0 hd (by decide)) (ls0 := [.ref 0, .int v13, .int v17, .int (1 : Int32)]) rfl (Nat.le_of_ble_eq_true rfl) (Nat.le_of_ble_eq_true rfl) rfl (to_rc rfl rfl rfl (g_o hG rfl)) rfl ?_))
    have k_108 : (1 : Int32).toInt = 1 := rfl
    obtain ⟨pz109, pzz109, qz109, qzz109, hpz109, hpzz109, hqz109, hqzz109, hpqz109⟩ := id jPQE
    obtain ⟨sg, NN, nz, ca, hs1, hs2, hn1, hn2, hn3, hn4, hn5⟩ := AN_u jAN hpqz109
    refine E_121 hX (dp1 hd (by decide)) hG hpz109 hpzz109 hqz109 hqzz109 hpqz109 (by omega) (by omega) jNI jPI jQI hs1.1 (c := v13) (e := v17) (m := (1 : Int32)) (sg := sg) (p := pz109) (pz := pzz109) (q := qz109) (qz := qzz109) (fun r110 M119 hG112 F111 p_113 p_114 p_115 p_116 p_117 p_118 => ?_)
    have n_120 : M119.1.2.1 = M.1.2.1 ∧ M119.1.2.2.1 = M.1.2.2.1 := by rw [F111.1]; exact ⟨rfl, rfl⟩
    have b_122 := g_b hG112 (a := 6) (i := 0) (lo := 0) (hi := 150) rfl rfl
    have c_123 : M119.2.1 77 29 = (M.2.1 77 29) := (F_n F111 (show ¬ (6 ≤ 77 ∧ 77 ≤ 10) by decide) rfl)
    have t_124 : (M119.2.1 77 29).toInt = (M.2.1 77 29).toInt := congrArg Int32.toInt c_123
    refine to_popi (pc := 629) rw_0_629 (to_an (pc := 630) rw_0_630 rfl (to_an (pc := 631) rw_0_631 rfl (to_i (pc := 632) rw_0_632 rfl (to_c (pc := 634) rw_0_634 (x := (1 : Int32)) rfl rfl (s_addk (pc := 635) rw_0_635 (A := i.toInt) (B := 1) rfl rfl (by omega) (v := v11) e12 (s_x0k (pc := 636) rw_0_636 hL (A := v11.toInt) rfl (by omega) (by omega) (v := v13) e14 (to_an (pc := 637) rw_0_637 rfl (to_i (pc := 638) rw_0_638 rfl (to_c (pc := 640) rw_0_640 (x := (2 : Int32)) rfl rfl (s_addk (pc := 641) rw_0_641 (A := i.toInt) (B := 2) rfl rfl (by omega) (v := v15) e16 (s_x0k (pc := 642) rw_0_642 hL (A := v15.toInt) rfl (by omega) (by omega) (v := v17) e18 ?_)))))))))))
    refine to_an (pc := 643) rw_0_643 rfl (to_i (pc := 644) rw_0_644 rfl (to_c (pc := 646) rw_0_646 (x := (3 : Int32)) rfl rfl (s_addk (pc := 647) rw_0_647 (A := i.toInt) (B := 3) rfl rfl (by omega) (v := v19) e20 (s_x0k (pc := 648) rw_0_648 hL (A := v19.toInt) rfl (by omega) (by omega) (v := v21) e22 (b_ieq (pc := 649) rw_0_649 (A := v21.toInt) rfl (fun h131 => ?_) (fun h131 => ?_))))))
    · refine to_c (pc := 656) rw_0_656 (x := (0 : Int32)) rfl rfl (s_v (pc := 657) rw_0_657 (dp0 hd (by decide)) (ls0 := [.ref 77, .int v13, .int v17, .int (0 : Int32)]) rfl (Nat.le_of_ble_eq_true rfl) (Nat.le_of_ble_eq_true rfl) rfl (to_rc rfl rfl rfl (g_o hG112 rfl)) rfl ?_)
      have k_132 : (0 : Int32).toInt = 0 := rfl
      have c_133 : M119.2.1 77 28 = (M.2.1 77 28) := (F_n F111 (show ¬ (6 ≤ 77 ∧ 77 ≤ 10) by decide) rfl)
      have t_134 : (M119.2.1 77 28).toInt = (M.2.1 77 28).toInt := congrArg Int32.toInt c_133
      have j_135 := (NJ_f (tg_609 F111) jNJ)
      have j_136 := (PLk_f (tg_611 F111) hs2.1)
      refine E_196 hX (dp1 hd (by decide)) hG112 (by omega) (by omega) j_135 j_136 (c := v13) (e := v17) (m := (0 : Int32)) (sg := sg) (fun r137 M144 hG139 F138 p_140 p_141 p_142 p_143 => ?_)
      have n_145 : M144.1.2.1 = M119.1.2.1 ∧ M144.1.2.2.1 = M119.1.2.2.1 := by rw [F138.1]; exact ⟨rfl, rfl⟩
      have b_147 := g_b hG139 (a := 77) (i := 29) (lo := 0) (hi := 150) rfl rfl
      have k_148 : (2 : Int32).toInt = 2 := rfl
      have k_149 : (3 : Int32).toInt = 3 := rfl
      have k_150 : (4 : Int32).toInt = 4 := rfl
      have k_151 : (5 : Int32).toInt = 5 := rfl
      have z_152 := x_tk_b (0 : Int32)
      have z_153 : AN M144 := by exfalso; omega
      refine to_popi (pc := 660) rw_0_660 (to_go (pc := 661) rw_0_661 ?_)
      have c_154 : M144.2.1 77 7 = (M.2.1 77 7) := (F_n F138 (show ¬ (77 = 77 ∧ (7 = 2 ∨ 7 = 29) ∨ 90 ≤ 77 ∧ 77 ≤ 93) by decide) (F_n F111 (show ¬ (6 ≤ 77 ∧ 77 ≤ 10) by decide) rfl))
      have t_155 : (M144.2.1 77 7).toInt = (M.2.1 77 7).toInt := congrArg Int32.toInt c_154
      have c_156 : M144.2.1 77 6 = (M.2.1 77 6) := (F_n F138 (show ¬ (77 = 77 ∧ (6 = 2 ∨ 6 = 29) ∨ 90 ≤ 77 ∧ 77 ≤ 93) by decide) (F_n F111 (show ¬ (6 ≤ 77 ∧ 77 ≤ 10) by decide) rfl))
      have t_157 : (M144.2.1 77 6).toInt = (M.2.1 77 6).toInt := congrArg Int32.toInt c_156
      have c_158 : M144.2.1 1 1 = (M.2.1 1 1) := (F_n F138 (show ¬ (1 = 77 ∧ (1 = 2 ∨ 1 = 29) ∨ 90 ≤ 1 ∧ 1 ≤ 93) by decide) (F_n F111 (show ¬ (6 ≤ 1 ∧ 1 ≤ 10) by decide) rfl))
      have t_159 : (M144.2.1 1 1).toInt = (M.2.1 1 1).toInt := congrArg Int32.toInt c_158
      have c_160 : M144.2.1 77 1 = (M.2.1 77 1) := (F_n F138 (show ¬ (77 = 77 ∧ (1 = 2 ∨ 1 = 29) ∨ 90 ≤ 77 ∧ 77 ≤ 93) by decide) (F_n F111 (show ¬ (6 ≤ 77 ∧ 77 ≤ 10) by decide) rfl))
      have t_161 : (M144.2.1 77 1).toInt = (M.2.1 77 1).toInt := congrArg Int32.toInt c_160
      have c_162 : M144.2.1 0 12 = (M.2.1 0 12) := (F_n F138 (show ¬ (0 = 77 ∧ (12 = 2 ∨ 12 = 29) ∨ 90 ≤ 0 ∧ 0 ≤ 93) by decide) (F_n F111 (show ¬ (6 ≤ 0 ∧ 0 ≤ 10) by decide) rfl))
      have t_163 : (M144.2.1 0 12).toInt = (M.2.1 0 12).toInt := congrArg Int32.toInt c_162
      have c_164 : M144.2.1 77 28 = (M.2.1 77 28) := (F_n F138 (show ¬ (77 = 77 ∧ (28 = 2 ∨ 28 = 29) ∨ 90 ≤ 77 ∧ 77 ≤ 93) by decide) c_133)
      have t_165 : (M144.2.1 77 28).toInt = (M.2.1 77 28).toInt := congrArg Int32.toInt c_164
      have c_166 : M144.2.1 17 4 = (M.2.1 17 4) := (F_n F138 (show ¬ (17 = 77 ∧ (4 = 2 ∨ 4 = 29) ∨ 90 ≤ 17 ∧ 17 ≤ 93) by decide) (F_n F111 (show ¬ (6 ≤ 17 ∧ 17 ≤ 10) by decide) rfl))
      have t_167 : (M144.2.1 17 4).toInt = (M.2.1 17 4).toInt := congrArg Int32.toInt c_166
      have c_168 : M144.2.1 77 41 = (M.2.1 77 41) := (F_n F138 (show ¬ (77 = 77 ∧ (41 = 2 ∨ 41 = 29) ∨ 90 ≤ 77 ∧ 77 ≤ 93) by decide) (F_n F111 (show ¬ (6 ≤ 77 ∧ 77 ≤ 10) by decide) rfl))
      have t_169 : (M144.2.1 77 41).toInt = (M.2.1 77 41).toInt := congrArg Int32.toInt c_168
      have c_170 : M144.2.1 6 0 = (M119.2.1 6 0) := (F_n F138 (show ¬ (6 = 77 ∧ (0 = 2 ∨ 0 = 29) ∨ 90 ≤ 6 ∧ 6 ≤ 93) by decide) rfl)
      have t_171 : (M144.2.1 6 0).toInt = (M119.2.1 6 0).toInt := congrArg Int32.toInt c_170
      have c_172 : M144.2.1 28 8 = (M.2.1 28 8) := (F_n F138 (show ¬ (28 = 77 ∧ (8 = 2 ∨ 8 = 29) ∨ 90 ≤ 28 ∧ 28 ≤ 93) by decide) (F_n F111 (show ¬ (6 ≤ 28 ∧ 28 ≤ 10) by decide) rfl))
      have t_173 : (M144.2.1 28 8).toInt = (M.2.1 28 8).toInt := congrArg Int32.toInt c_172
      have c_174 : M144.2.1 77 43 = (M.2.1 77 43) := (F_n F138 (show ¬ (77 = 77 ∧ (43 = 2 ∨ 43 = 29) ∨ 90 ≤ 77 ∧ 77 ≤ 93) by decide) (F_n F111 (show ¬ (6 ≤ 77 ∧ 77 ≤ 10) by decide) rfl))
      have t_175 : (M144.2.1 77 43).toInt = (M.2.1 77 43).toInt := congrArg Int32.toInt c_174
      have c_176 : M144.2.1 28 9 = (M.2.1 28 9) := (F_n F138 (show ¬ (28 = 77 ∧ (9 = 2 ∨ 9 = 29) ∨ 90 ≤ 28 ∧ 28 ≤ 93) by decide) (F_n F111 (show ¬ (6 ≤ 28 ∧ 28 ≤ 10) by decide) rfl))
      have t_177 : (M144.2.1 28 9).toInt = (M.2.1 28 9).toInt := congrArg Int32.toInt c_176
      have c_178 : M144.2.1 77 42 = (M.2.1 77 42) := (F_n F138 (show ¬ (77 = 77 ∧ (42 = 2 ∨ 42 = 29) ∨ 90 ≤ 77 ∧ 77 ≤ 93) by decide) (F_n F111 (show ¬ (6 ≤ 77 ∧ 77 ≤ 10) by decide) rfl))
      have t_179 : (M144.2.1 77 42).toInt = (M.2.1 77 42).toInt := congrArg Int32.toInt c_178
      have j_180 := (PI_f (tg_612 F138) p_114)
      have j_181 := (NI_f (tg_613 F138) p_113)
      have j_182 := (QI_f (tg_614 F138) p_115)
      have j_183 := (PQE_r F138.2.1 (PQE_r F111.2.1 jPQE))
      have j_184 := (FA_f (tg_615 F138) (FA_f (tg_610 F111) jFA))
      have j_185 := (WC_f (tg_616 F138) (WC_f (tg_617 F111) jWC))
      have j_186 := (PS_f (tg_618 F138) (PS_f (tg_619 F111) jPS))
      have j_187 := (KQ_f (tg_620 F138) (KQ_f (tg_621 F111) jKQ))
      have j_188 := (TP_f (tg_622 F138) (TP_f (tg_623 F111) jTP))
      have j_189 := (W9_f (tg_624 F138) (W9_f (tg_625 F111) jW9))
      have j_190 := (KNA_F F138 (fun a i z => show ¬ (a = 77 ∧ (i = 2 ∨ i = 29) ∨ 90 ≤ a ∧ a ≤ 93) by omega) (KNA_F F111 (fun a i z => show ¬ (6 ≤ a ∧ a ≤ 10) by omega) jKNA))
      have j_191 := (NE_r F138.2.1 (NE_r F111.2.1 jNE))
      have j_192 := (W8_f (tg_626 F138) (W8_f (tg_627 F111) jW8))
      exact h M144 (u5) (u6) ⟨⟨⟨⟨⟨⟨⟨⟨⟨hG139, ⟨j_180, j_181, j_182, j_183⟩, ⟨j_184, j_185, p_140, j_186, j_187⟩, by omega, by omega⟩, j_188, j_189⟩, j_191, by omega⟩, AN_a z_153⟩, by omega⟩, j_192⟩, by omega⟩, z_153⟩, j_190, by omega, by omega⟩ (by omega) (by omega)
    · refine to_c (pc := 652) rw_0_652 (x := (1 : Int32)) rfl rfl (to_go (pc := 653) rw_0_653 (s_v (pc := 657) rw_0_657 (dp0 hd (by decide)) (ls0 := [.ref 77, .int v13, .int v17, .int (1 : Int32)]) rfl (Nat.le_of_ble_eq_true rfl) (Nat.le_of_ble_eq_true rfl) rfl (to_rc rfl rfl rfl (g_o hG112 rfl)) rfl ?_))
      have c_193 : M119.2.1 77 28 = (M.2.1 77 28) := (F_n F111 (show ¬ (6 ≤ 77 ∧ 77 ≤ 10) by decide) rfl)
      have t_194 : (M119.2.1 77 28).toInt = (M.2.1 77 28).toInt := congrArg Int32.toInt c_193
      have j_195 := (NJ_f (tg_609 F111) jNJ)
      have j_196 := (PLk_f (tg_611 F111) hs2.1)
      refine E_196 hX (dp1 hd (by decide)) hG112 (by omega) (by omega) j_195 j_196 (c := v13) (e := v17) (m := (1 : Int32)) (sg := sg) (fun r197 M204 hG199 F198 p_200 p_201 p_202 p_203 => ?_)
      have n_205 : M204.1.2.1 = M119.1.2.1 ∧ M204.1.2.2.1 = M119.1.2.2.1 := by rw [F198.1]; exact ⟨rfl, rfl⟩
      have b_207 := g_b hG199 (a := 77) (i := 29) (lo := 0) (hi := 150) rfl rfl
      have k_208 : (0 : Int32).toInt = 0 := rfl
      have k_209 : (2 : Int32).toInt = 2 := rfl
      have k_210 : (3 : Int32).toInt = 3 := rfl
      have k_211 : (4 : Int32).toInt = 4 := rfl
      have k_212 : (5 : Int32).toInt = 5 := rfl
      have z_213 := x_tk_b (1 : Int32)
      have z_214 := AN_n hpz109 hpqz109 hs1 hs2 hn1 hn2 hn3 hn4 hn5 F111 (fun a i z => show ¬ (6 ≤ a ∧ a ≤ 10) by omega) F198 (fun a i z => show ¬ (a = 77 ∧ (i = 2 ∨ i = 29) ∨ 90 ≤ a ∧ a ≤ 93) by omega) p_118 p_203 (by omega) (by omega) (by omega) (by omega) (fun z9 => ⟨fun z => by omega, fun z => by omega, fun z => by omega, fun z => by omega, fun z => by omega⟩)
      refine to_popi (pc := 660) rw_0_660 (to_go (pc := 661) rw_0_661 ?_)
      have c_215 : M204.2.1 77 7 = (M.2.1 77 7) := (F_n F198 (show ¬ (77 = 77 ∧ (7 = 2 ∨ 7 = 29) ∨ 90 ≤ 77 ∧ 77 ≤ 93) by decide) (F_n F111 (show ¬ (6 ≤ 77 ∧ 77 ≤ 10) by decide) rfl))
      have t_216 : (M204.2.1 77 7).toInt = (M.2.1 77 7).toInt := congrArg Int32.toInt c_215
      have c_217 : M204.2.1 77 6 = (M.2.1 77 6) := (F_n F198 (show ¬ (77 = 77 ∧ (6 = 2 ∨ 6 = 29) ∨ 90 ≤ 77 ∧ 77 ≤ 93) by decide) (F_n F111 (show ¬ (6 ≤ 77 ∧ 77 ≤ 10) by decide) rfl))
      have t_218 : (M204.2.1 77 6).toInt = (M.2.1 77 6).toInt := congrArg Int32.toInt c_217
      have c_219 : M204.2.1 1 1 = (M.2.1 1 1) := (F_n F198 (show ¬ (1 = 77 ∧ (1 = 2 ∨ 1 = 29) ∨ 90 ≤ 1 ∧ 1 ≤ 93) by decide) (F_n F111 (show ¬ (6 ≤ 1 ∧ 1 ≤ 10) by decide) rfl))
      have t_220 : (M204.2.1 1 1).toInt = (M.2.1 1 1).toInt := congrArg Int32.toInt c_219
      have c_221 : M204.2.1 77 1 = (M.2.1 77 1) := (F_n F198 (show ¬ (77 = 77 ∧ (1 = 2 ∨ 1 = 29) ∨ 90 ≤ 77 ∧ 77 ≤ 93) by decide) (F_n F111 (show ¬ (6 ≤ 77 ∧ 77 ≤ 10) by decide) rfl))
      have t_222 : (M204.2.1 77 1).toInt = (M.2.1 77 1).toInt := congrArg Int32.toInt c_221
      have c_223 : M204.2.1 0 12 = (M.2.1 0 12) := (F_n F198 (show ¬ (0 = 77 ∧ (12 = 2 ∨ 12 = 29) ∨ 90 ≤ 0 ∧ 0 ≤ 93) by decide) (F_n F111 (show ¬ (6 ≤ 0 ∧ 0 ≤ 10) by decide) rfl))
      have t_224 : (M204.2.1 0 12).toInt = (M.2.1 0 12).toInt := congrArg Int32.toInt c_223
      have c_225 : M204.2.1 77 28 = (M.2.1 77 28) := (F_n F198 (show ¬ (77 = 77 ∧ (28 = 2 ∨ 28 = 29) ∨ 90 ≤ 77 ∧ 77 ≤ 93) by decide) c_193)
      have t_226 : (M204.2.1 77 28).toInt = (M.2.1 77 28).toInt := congrArg Int32.toInt c_225
      have c_227 : M204.2.1 17 4 = (M.2.1 17 4) := (F_n F198 (show ¬ (17 = 77 ∧ (4 = 2 ∨ 4 = 29) ∨ 90 ≤ 17 ∧ 17 ≤ 93) by decide) (F_n F111 (show ¬ (6 ≤ 17 ∧ 17 ≤ 10) by decide) rfl))
      have t_228 : (M204.2.1 17 4).toInt = (M.2.1 17 4).toInt := congrArg Int32.toInt c_227
      have c_229 : M204.2.1 77 41 = (M.2.1 77 41) := (F_n F198 (show ¬ (77 = 77 ∧ (41 = 2 ∨ 41 = 29) ∨ 90 ≤ 77 ∧ 77 ≤ 93) by decide) (F_n F111 (show ¬ (6 ≤ 77 ∧ 77 ≤ 10) by decide) rfl))
      have t_230 : (M204.2.1 77 41).toInt = (M.2.1 77 41).toInt := congrArg Int32.toInt c_229
      have c_231 : M204.2.1 6 0 = (M119.2.1 6 0) := (F_n F198 (show ¬ (6 = 77 ∧ (0 = 2 ∨ 0 = 29) ∨ 90 ≤ 6 ∧ 6 ≤ 93) by decide) rfl)
      have t_232 : (M204.2.1 6 0).toInt = (M119.2.1 6 0).toInt := congrArg Int32.toInt c_231
      have c_233 : M204.2.1 28 8 = (M.2.1 28 8) := (F_n F198 (show ¬ (28 = 77 ∧ (8 = 2 ∨ 8 = 29) ∨ 90 ≤ 28 ∧ 28 ≤ 93) by decide) (F_n F111 (show ¬ (6 ≤ 28 ∧ 28 ≤ 10) by decide) rfl))
      have t_234 : (M204.2.1 28 8).toInt = (M.2.1 28 8).toInt := congrArg Int32.toInt c_233
      have c_235 : M204.2.1 77 43 = (M.2.1 77 43) := (F_n F198 (show ¬ (77 = 77 ∧ (43 = 2 ∨ 43 = 29) ∨ 90 ≤ 77 ∧ 77 ≤ 93) by decide) (F_n F111 (show ¬ (6 ≤ 77 ∧ 77 ≤ 10) by decide) rfl))
      have t_236 : (M204.2.1 77 43).toInt = (M.2.1 77 43).toInt := congrArg Int32.toInt c_235
      have c_237 : M204.2.1 28 9 = (M.2.1 28 9) := (F_n F198 (show ¬ (28 = 77 ∧ (9 = 2 ∨ 9 = 29) ∨ 90 ≤ 28 ∧ 28 ≤ 93) by decide) (F_n F111 (show ¬ (6 ≤ 28 ∧ 28 ≤ 10) by decide) rfl))
      have t_238 : (M204.2.1 28 9).toInt = (M.2.1 28 9).toInt := congrArg Int32.toInt c_237
      have c_239 : M204.2.1 77 42 = (M.2.1 77 42) := (F_n F198 (show ¬ (77 = 77 ∧ (42 = 2 ∨ 42 = 29) ∨ 90 ≤ 77 ∧ 77 ≤ 93) by decide) (F_n F111 (show ¬ (6 ≤ 77 ∧ 77 ≤ 10) by decide) rfl))
      have t_240 : (M204.2.1 77 42).toInt = (M.2.1 77 42).toInt := congrArg Int32.toInt c_239
      have j_241 := (PI_f (tg_612 F198) p_114)
      have j_242 := (NI_f (tg_613 F198) p_113)
      have j_243 := (QI_f (tg_614 F198) p_115)
      have j_244 := (PQE_r F198.2.1 (PQE_r F111.2.1 jPQE))
      have j_245 := (FA_f (tg_615 F198) (FA_f (tg_610 F111) jFA))
      have j_246 := (WC_f (tg_616 F198) (WC_f (tg_617 F111) jWC))
      have j_247 := (PS_f (tg_618 F198) (PS_f (tg_619 F111) jPS))
      have j_248 := (KQ_f (tg_620 F198) (KQ_f (tg_621 F111) jKQ))
      have j_249 := (TP_f (tg_622 F198) (TP_f (tg_623 F111) jTP))
      have j_250 := (W9_f (tg_624 F198) (W9_f (tg_625 F111) jW9))
      have j_251 := (KNA_F F198 (fun a i z => show ¬ (a = 77 ∧ (i = 2 ∨ i = 29) ∨ 90 ≤ a ∧ a ≤ 93) by omega) (KNA_F F111 (fun a i z => show ¬ (6 ≤ a ∧ a ≤ 10) by omega) jKNA))
      have j_252 := (NE_r F198.2.1 (NE_r F111.2.1 jNE))
      have j_253 := (W8_f (tg_626 F198) (W8_f (tg_627 F111) jW8))
      exact h M204 (u5) (u6) ⟨⟨⟨⟨⟨⟨⟨⟨⟨hG199, ⟨j_241, j_242, j_243, j_244⟩, ⟨j_245, j_246, p_200, j_247, j_248⟩, by omega, by omega⟩, j_249, j_250⟩, j_252, by omega⟩, AN_a z_214⟩, by omega⟩, j_253⟩, by omega⟩, z_214⟩, j_251, by omega, by omega⟩ (by omega) (by omega)
set_option maxRecDepth 4000 in
set_option maxHeartbeats 0 in
theorem LW_13 {X : mm_X} {d L : Nat} {M : mm_M} {Q : Option Value → mm_M → Prop} {i : Int32} {u5 u6 : Value} (hX : g_X X) (hW : g_W X) (hW2 : g_W2 X) (hL : (X 0).1 = L) (h3 : L ≤ 3072) (hd : 40 ≤ d) (hi : 0 ≤ i.toInt) (hi2 : i.toInt + 6 ≤ (L : Int)) (H : LI10 M) (h : ∀ (M1 : mm_M) (v5 v6 : Value), LI10 M1 → M1.1.2.1 ≤ M.1.2.1 + 1 → M1.1.2.2.1 ≤ M.1.2.2.1 + 6 → mm_T X d 0 1313 [.ref mm_ext, .ref 0, .ref 77, .ref 125, .int i, v5, v6] [] M1 Q) : mm_T X d 0 664 [.ref mm_ext, .ref 0, .ref 77, .ref 125, .int i, u5, u6] [] M Q := by
  obtain ⟨⟨⟨⟨⟨⟨⟨⟨⟨hG, ⟨jPI, jNI, jQI, jPQE⟩, ⟨jFA, jWC, jNJ, jPS, jKQ⟩, jJ, jE⟩, jTP, jW9⟩, jNE, jCC⟩, -⟩, jOV⟩, jW8⟩, jNN⟩, jAN⟩, jKNA, jDN, jPN⟩ := H
  have b_1 := g_b hG (a := 77) (i := 7) (lo := 0) (hi := 500) rfl rfl
  have b_2 := g_b hG (a := 77) (i := 6) (lo := 0) (hi := 500) rfl rfl
  have b_3 := g_b hG (a := 1) (i := 1) (lo := 0) (hi := 500) rfl rfl
  have b_4 := g_b hG (a := 77) (i := 1) (lo := 0) (hi := 500) rfl rfl
  have b_5 := g_b hG (a := 0) (i := 12) (lo := 0) (hi := 30) rfl rfl
  have b_6 := g_b hG (a := 77) (i := 28) (lo := 0) (hi := 30) rfl rfl
  have b_7 := g_b hG (a := 6) (i := 0) (lo := 0) (hi := 150) rfl rfl
  have b_8 := g_b hG (a := 77) (i := 29) (lo := 0) (hi := 150) rfl rfl
  have b_9 := g_b hG (a := 28) (i := 8) (lo := 0) (hi := 3000) rfl rfl
  have b_10 := g_b hG (a := 77) (i := 43) (lo := 0) (hi := 3000) rfl rfl
  refine to_an (pc := 664) rw_0_664 rfl (to_an (pc := 665) rw_0_665 rfl (to_i (pc := 666) rw_0_666 rfl (to_c (pc := 668) rw_0_668 (x := (1 : Int32)) rfl rfl (s_add (pc := 669) rw_0_669 (A := i.toInt) (B := 1) rfl rfl (by omega) (fun v11 e12 => s_x0 (pc := 670) rw_0_670 hL (A := v11.toInt) rfl (by omega) (by omega) (fun v13 e14 => to_an (pc := 671) rw_0_671 rfl (to_i (pc := 672) rw_0_672 rfl (to_c (pc := 674) rw_0_674 (x := (2 : Int32)) rfl rfl (s_add (pc := 675) rw_0_675 (A := i.toInt) (B := 2) rfl rfl (by omega) (fun v15 e16 => s_x0 (pc := 676) rw_0_676 hL (A := v15.toInt) rfl (by omega) (by omega) (fun v17 e18 => s_v (pc := 677) rw_0_677 (dp0 hd (by decide)) (ls0 := [.ref 0, .int v13, .int v17]) rfl (Nat.le_of_ble_eq_true rfl) (Nat.le_of_ble_eq_true rfl) rfl (to_rc rfl rfl rfl (g_o hG rfl)) rfl ?_)))))))))))
  obtain ⟨pz19, pzz19, qz19, qzz19, hpz19, hpzz19, hqz19, hqzz19, hpqz19⟩ := id jPQE
  obtain ⟨sg, NN, nz, ca, hs1, hs2, hn1, hn2, hn3, hn4, hn5⟩ := AN_u jAN hpqz19
  refine E_122 hX (dp1 hd (by decide)) hG hpz19 hpzz19 hqz19 hqzz19 hpqz19 jNI jPI jQI hs1.1 (w := v13) (b := v17) (sg := sg) (p := pz19) (pz := pzz19) (q := qz19) (qz := qzz19) (fun r20 M29 hG22 F21 p_23 p_24 p_25 p_26 p_27 p_28 => ?_)
  have n_30 : M29.1.2.1 = M.1.2.1 ∧ M29.1.2.2.1 = M.1.2.2.1 := by rw [F21.1]; exact ⟨rfl, rfl⟩
  have b_32 := g_b hG22 (a := 6) (i := 0) (lo := 0) (hi := 150) rfl rfl
  have c_33 : M29.2.1 77 29 = (M.2.1 77 29) := (F_n F21 (show ¬ (6 ≤ 77 ∧ 77 ≤ 10) by decide) rfl)
  have t_34 : (M29.2.1 77 29).toInt = (M.2.1 77 29).toInt := congrArg Int32.toInt c_33
  refine to_popi (pc := 680) rw_0_680 (to_an (pc := 681) rw_0_681 rfl (to_an (pc := 682) rw_0_682 rfl (to_i (pc := 683) rw_0_683 rfl (to_c (pc := 685) rw_0_685 (x := (1 : Int32)) rfl rfl (s_addk (pc := 686) rw_0_686 (A := i.toInt) (B := 1) rfl rfl (by omega) (v := v11) e12 (s_x0k (pc := 687) rw_0_687 hL (A := v11.toInt) rfl (by omega) (by omega) (v := v13) e14 (to_an (pc := 688) rw_0_688 rfl (to_i (pc := 689) rw_0_689 rfl (to_c (pc := 691) rw_0_691 (x := (2 : Int32)) rfl rfl (s_addk (pc := 692) rw_0_692 (A := i.toInt) (B := 2) rfl rfl (by omega) (v := v15) e16 (s_x0k (pc := 693) rw_0_693 hL (A := v15.toInt) rfl (by omega) (by omega) (v := v17) e18 ?_)))))))))))
  refine s_v (pc := 694) rw_0_694 (dp0 hd (by decide)) (ls0 := [.ref 77, .int v13, .int v17]) rfl (Nat.le_of_ble_eq_true rfl) (Nat.le_of_ble_eq_true rfl) rfl (to_rc rfl rfl rfl (g_o hG22 rfl)) rfl ?_
  have j_39 := (NJ_f (tg_609 F21) jNJ)
  have j_40 := (PLk_f (tg_611 F21) hs2.1)
  refine E_198 hX (dp1 hd (by decide)) hG22 j_39 j_40 (w := v13) (b := v17) (sg := sg) (fun r41 M48 hG43 F42 p_44 p_45 p_46 p_47 => ?_)
  have n_49 : M48.1.2.1 = M29.1.2.1 ∧ M48.1.2.2.1 = M29.1.2.2.1 := by rw [F42.1]; exact ⟨rfl, rfl⟩
  have b_51 := g_b hG43 (a := 77) (i := 29) (lo := 0) (hi := 150) rfl rfl
  have k_52 : (0 : Int32).toInt = 0 := rfl
  have k_53 : (1 : Int32).toInt = 1 := rfl
  have k_54 : (2 : Int32).toInt = 2 := rfl
  have k_55 : (3 : Int32).toInt = 3 := rfl
  have k_56 : (4 : Int32).toInt = 4 := rfl
  have k_57 : (5 : Int32).toInt = 5 := rfl
  have z_58 := AN_n hpz19 hpqz19 hs1 hs2 hn1 hn2 hn3 hn4 hn5 F21 (fun a i z => show ¬ (6 ≤ a ∧ a ≤ 10) by omega) F42 (fun a i z => show ¬ (a = 77 ∧ (i = 2 ∨ i = 29) ∨ 90 ≤ a ∧ a ≤ 93) by omega) p_28 p_47 (by omega) (by omega) (by omega) (by omega) (fun z9 => ⟨fun z => by omega, fun z => by omega, fun z => by omega, fun z => by omega, fun z => by omega⟩)
  refine to_popi (pc := 697) rw_0_697 (to_go (pc := 698) rw_0_698 ?_)
  have c_59 : M48.2.1 77 7 = (M.2.1 77 7) := (F_n F42 (show ¬ (77 = 77 ∧ (7 = 2 ∨ 7 = 29) ∨ 90 ≤ 77 ∧ 77 ≤ 93) by decide) (F_n F21 (show ¬ (6 ≤ 77 ∧ 77 ≤ 10) by decide) rfl))
  have t_60 : (M48.2.1 77 7).toInt = (M.2.1 77 7).toInt := congrArg Int32.toInt c_59
  have c_61 : M48.2.1 77 6 = (M.2.1 77 6) := (F_n F42 (show ¬ (77 = 77 ∧ (6 = 2 ∨ 6 = 29) ∨ 90 ≤ 77 ∧ 77 ≤ 93) by decide) (F_n F21 (show ¬ (6 ≤ 77 ∧ 77 ≤ 10) by decide) rfl))
  have t_62 : (M48.2.1 77 6).toInt = (M.2.1 77 6).toInt := congrArg Int32.toInt c_61
  have c_63 : M48.2.1 1 1 = (M.2.1 1 1) := (F_n F42 (show ¬ (1 = 77 ∧ (1 = 2 ∨ 1 = 29) ∨ 90 ≤ 1 ∧ 1 ≤ 93) by decide) (F_n F21 (show ¬ (6 ≤ 1 ∧ 1 ≤ 10) by decide) rfl))
  have t_64 : (M48.2.1 1 1).toInt = (M.2.1 1 1).toInt := congrArg Int32.toInt c_63
  have c_65 : M48.2.1 77 1 = (M.2.1 77 1) := (F_n F42 (show ¬ (77 = 77 ∧ (1 = 2 ∨ 1 = 29) ∨ 90 ≤ 77 ∧ 77 ≤ 93) by decide) (F_n F21 (show ¬ (6 ≤ 77 ∧ 77 ≤ 10) by decide) rfl))
  have t_66 : (M48.2.1 77 1).toInt = (M.2.1 77 1).toInt := congrArg Int32.toInt c_65
  have c_67 : M48.2.1 0 12 = (M.2.1 0 12) := (F_n F42 (show ¬ (0 = 77 ∧ (12 = 2 ∨ 12 = 29) ∨ 90 ≤ 0 ∧ 0 ≤ 93) by decide) (F_n F21 (show ¬ (6 ≤ 0 ∧ 0 ≤ 10) by decide) rfl))
  have t_68 : (M48.2.1 0 12).toInt = (M.2.1 0 12).toInt := congrArg Int32.toInt c_67
  have c_69 : M48.2.1 77 28 = (M.2.1 77 28) := (F_n F42 (show ¬ (77 = 77 ∧ (28 = 2 ∨ 28 = 29) ∨ 90 ≤ 77 ∧ 77 ≤ 93) by decide) (F_n F21 (show ¬ (6 ≤ 77 ∧ 77 ≤ 10) by decide) rfl))
  have t_70 : (M48.2.1 77 28).toInt = (M.2.1 77 28).toInt := congrArg Int32.toInt c_69
  have c_71 : M48.2.1 17 4 = (M.2.1 17 4) := (F_n F42 (show ¬ (17 = 77 ∧ (4 = 2 ∨ 4 = 29) ∨ 90 ≤ 17 ∧ 17 ≤ 93) by decide) (F_n F21 (show ¬ (6 ≤ 17 ∧ 17 ≤ 10) by decide) rfl))
  have t_72 : (M48.2.1 17 4).toInt = (M.2.1 17 4).toInt := congrArg Int32.toInt c_71
  have c_73 : M48.2.1 77 41 = (M.2.1 77 41) := (F_n F42 (show ¬ (77 = 77 ∧ (41 = 2 ∨ 41 = 29) ∨ 90 ≤ 77 ∧ 77 ≤ 93) by decide) (F_n F21 (show ¬ (6 ≤ 77 ∧ 77 ≤ 10) by decide) rfl))
  have t_74 : (M48.2.1 77 41).toInt = (M.2.1 77 41).toInt := congrArg Int32.toInt c_73
  have c_75 : M48.2.1 6 0 = (M29.2.1 6 0) := (F_n F42 (show ¬ (6 = 77 ∧ (0 = 2 ∨ 0 = 29) ∨ 90 ≤ 6 ∧ 6 ≤ 93) by decide) rfl)
  have t_76 : (M48.2.1 6 0).toInt = (M29.2.1 6 0).toInt := congrArg Int32.toInt c_75
  have c_77 : M48.2.1 28 8 = (M.2.1 28 8) := (F_n F42 (show ¬ (28 = 77 ∧ (8 = 2 ∨ 8 = 29) ∨ 90 ≤ 28 ∧ 28 ≤ 93) by decide) (F_n F21 (show ¬ (6 ≤ 28 ∧ 28 ≤ 10) by decide) rfl))
  have t_78 : (M48.2.1 28 8).toInt = (M.2.1 28 8).toInt := congrArg Int32.toInt c_77
  have c_79 : M48.2.1 77 43 = (M.2.1 77 43) := (F_n F42 (show ¬ (77 = 77 ∧ (43 = 2 ∨ 43 = 29) ∨ 90 ≤ 77 ∧ 77 ≤ 93) by decide) (F_n F21 (show ¬ (6 ≤ 77 ∧ 77 ≤ 10) by decide) rfl))
  have t_80 : (M48.2.1 77 43).toInt = (M.2.1 77 43).toInt := congrArg Int32.toInt c_79
  have c_81 : M48.2.1 28 9 = (M.2.1 28 9) := (F_n F42 (show ¬ (28 = 77 ∧ (9 = 2 ∨ 9 = 29) ∨ 90 ≤ 28 ∧ 28 ≤ 93) by decide) (F_n F21 (show ¬ (6 ≤ 28 ∧ 28 ≤ 10) by decide) rfl))
  have t_82 : (M48.2.1 28 9).toInt = (M.2.1 28 9).toInt := congrArg Int32.toInt c_81
  have c_83 : M48.2.1 77 42 = (M.2.1 77 42) := (F_n F42 (show ¬ (77 = 77 ∧ (42 = 2 ∨ 42 = 29) ∨ 90 ≤ 77 ∧ 77 ≤ 93) by decide) (F_n F21 (show ¬ (6 ≤ 77 ∧ 77 ≤ 10) by decide) rfl))
  have t_84 : (M48.2.1 77 42).toInt = (M.2.1 77 42).toInt := congrArg Int32.toInt c_83
  have j_85 := (PI_f (tg_612 F42) p_24)
  have j_86 := (NI_f (tg_613 F42) p_23)
  have j_87 := (QI_f (tg_614 F42) p_25)
  have j_88 := (PQE_r F42.2.1 (PQE_r F21.2.1 jPQE))
  have j_89 := (FA_f (tg_615 F42) (FA_f (tg_610 F21) jFA))
  have j_90 := (WC_f (tg_616 F42) (WC_f (tg_617 F21) jWC))
  have j_91 := (PS_f (tg_618 F42) (PS_f (tg_619 F21) jPS))
  have j_92 := (KQ_f (tg_620 F42) (KQ_f (tg_621 F21) jKQ))
  have j_93 := (TP_f (tg_622 F42) (TP_f (tg_623 F21) jTP))
  have j_94 := (W9_f (tg_624 F42) (W9_f (tg_625 F21) jW9))
  have j_95 := (KNA_F F42 (fun a i z => show ¬ (a = 77 ∧ (i = 2 ∨ i = 29) ∨ 90 ≤ a ∧ a ≤ 93) by omega) (KNA_F F21 (fun a i z => show ¬ (6 ≤ a ∧ a ≤ 10) by omega) jKNA))
  have j_96 := (NE_r F42.2.1 (NE_r F21.2.1 jNE))
  have j_97 := (W8_f (tg_626 F42) (W8_f (tg_627 F21) jW8))
  exact h M48 (u5) (u6) ⟨⟨⟨⟨⟨⟨⟨⟨⟨hG43, ⟨j_85, j_86, j_87, j_88⟩, ⟨j_89, j_90, p_44, j_91, j_92⟩, by omega, by omega⟩, j_93, j_94⟩, j_96, by omega⟩, AN_a z_58⟩, by omega⟩, j_97⟩, by omega⟩, z_58⟩, j_95, by omega, by omega⟩ (by omega) (by omega)
set_option maxRecDepth 4000 in
set_option maxHeartbeats 0 in
theorem LW_14 {X : mm_X} {d L : Nat} {M : mm_M} {Q : Option Value → mm_M → Prop} {i : Int32} {u5 u6 : Value} (hX : g_X X) (hW : g_W X) (hW2 : g_W2 X) (hL : (X 0).1 = L) (h3 : L ≤ 3072) (hd : 40 ≤ d) (hi : 0 ≤ i.toInt) (hi2 : i.toInt + 6 ≤ (L : Int)) (H : LI10 M) (h : ∀ (M1 : mm_M) (v5 v6 : Value), LI10 M1 → M1.1.2.1 ≤ M.1.2.1 + 1 → M1.1.2.2.1 ≤ M.1.2.2.1 + 6 → mm_T X d 0 1313 [.ref mm_ext, .ref 0, .ref 77, .ref 125, .int i, v5, v6] [] M1 Q) : mm_T X d 0 701 [.ref mm_ext, .ref 0, .ref 77, .ref 125, .int i, u5, u6] [] M Q := by
  obtain ⟨⟨⟨⟨⟨⟨⟨⟨⟨hG, ⟨jPI, jNI, jQI, jPQE⟩, ⟨jFA, jWC, jNJ, jPS, jKQ⟩, jJ, jE⟩, jTP, jW9⟩, jNE, jCC⟩, -⟩, jOV⟩, jW8⟩, jNN⟩, jAN⟩, jKNA, jDN, jPN⟩ := H
  have b_1 := g_b hG (a := 77) (i := 7) (lo := 0) (hi := 500) rfl rfl
  have b_2 := g_b hG (a := 77) (i := 6) (lo := 0) (hi := 500) rfl rfl
  have b_3 := g_b hG (a := 1) (i := 1) (lo := 0) (hi := 500) rfl rfl
  have b_4 := g_b hG (a := 77) (i := 1) (lo := 0) (hi := 500) rfl rfl
  have b_5 := g_b hG (a := 0) (i := 12) (lo := 0) (hi := 30) rfl rfl
  have b_6 := g_b hG (a := 77) (i := 28) (lo := 0) (hi := 30) rfl rfl
  have b_7 := g_b hG (a := 6) (i := 0) (lo := 0) (hi := 150) rfl rfl
  have b_8 := g_b hG (a := 77) (i := 29) (lo := 0) (hi := 150) rfl rfl
  have b_9 := g_b hG (a := 28) (i := 8) (lo := 0) (hi := 3000) rfl rfl
  have b_10 := g_b hG (a := 77) (i := 43) (lo := 0) (hi := 3000) rfl rfl
  refine to_an (pc := 701) rw_0_701 rfl (to_an (pc := 702) rw_0_702 rfl (to_i (pc := 703) rw_0_703 rfl (to_c (pc := 705) rw_0_705 (x := (1 : Int32)) rfl rfl (s_add (pc := 706) rw_0_706 (A := i.toInt) (B := 1) rfl rfl (by omega) (fun v11 e12 => s_x0 (pc := 707) rw_0_707 hL (A := v11.toInt) rfl (by omega) (by omega) (fun v13 e14 => s_v (pc := 708) rw_0_708 (dp0 hd (by decide)) (ls0 := [.ref 0, .int v13]) rfl (Nat.le_of_ble_eq_true rfl) (Nat.le_of_ble_eq_true rfl) rfl (to_rc rfl rfl rfl (g_o hG rfl)) rfl ?_))))))
  obtain ⟨pz15, pzz15, qz15, qzz15, hpz15, hpzz15, hqz15, hqzz15, hpqz15⟩ := id jPQE
  obtain ⟨sg, NN, nz, ca, hs1, hs2, hn1, hn2, hn3, hn4, hn5⟩ := AN_u jAN hpqz15
  refine E_123 hX (dp1 hd (by decide)) hG hpz15 hpzz15 hqz15 hqzz15 hpqz15 jNI jPI jQI hs1.1 (n := v13) (sg := sg) (p := pz15) (pz := pzz15) (q := qz15) (qz := qzz15) (fun r16 M25 hG18 F17 p_19 p_20 p_21 p_22 p_23 p_24 => ?_)
  have n_26 : M25.1.2.1 = M.1.2.1 ∧ M25.1.2.2.1 = M.1.2.2.1 := by rw [F17.1]; exact ⟨rfl, rfl⟩
  have b_28 := g_b hG18 (a := 6) (i := 0) (lo := 0) (hi := 150) rfl rfl
  have c_29 : M25.2.1 77 29 = (M.2.1 77 29) := (F_n F17 (show ¬ (6 ≤ 77 ∧ 77 ≤ 10) by decide) rfl)
  have t_30 : (M25.2.1 77 29).toInt = (M.2.1 77 29).toInt := congrArg Int32.toInt c_29
  refine to_popi (pc := 711) rw_0_711 (to_an (pc := 712) rw_0_712 rfl (to_an (pc := 713) rw_0_713 rfl (to_i (pc := 714) rw_0_714 rfl (to_c (pc := 716) rw_0_716 (x := (1 : Int32)) rfl rfl (s_addk (pc := 717) rw_0_717 (A := i.toInt) (B := 1) rfl rfl (by omega) (v := v11) e12 (s_x0k (pc := 718) rw_0_718 hL (A := v11.toInt) rfl (by omega) (by omega) (v := v13) e14 (s_v (pc := 719) rw_0_719 (dp0 hd (by decide)) (ls0 := [.ref 77, .int v13]) rfl (Nat.le_of_ble_eq_true rfl) (Nat.le_of_ble_eq_true rfl) rfl (to_rc rfl rfl rfl (g_o hG18 rfl)) rfl ?_)))))))
  have j_33 := (NJ_f (tg_609 F17) jNJ)
  have j_34 := (PLk_f (tg_611 F17) hs2.1)
  refine E_199 hX (dp1 hd (by decide)) hG18 j_33 j_34 (n := v13) (sg := sg) (fun r35 M42 hG37 F36 p_38 p_39 p_40 p_41 => ?_)
  have n_43 : M42.1.2.1 = M25.1.2.1 ∧ M42.1.2.2.1 = M25.1.2.2.1 := by rw [F36.1]; exact ⟨rfl, rfl⟩
  have b_45 := g_b hG37 (a := 77) (i := 29) (lo := 0) (hi := 150) rfl rfl
  have k_46 : (0 : Int32).toInt = 0 := rfl
  have k_47 : (1 : Int32).toInt = 1 := rfl
  have k_48 : (2 : Int32).toInt = 2 := rfl
  have k_49 : (3 : Int32).toInt = 3 := rfl
  have k_50 : (4 : Int32).toInt = 4 := rfl
  have k_51 : (5 : Int32).toInt = 5 := rfl
  have z_52 := AN_n hpz15 hpqz15 hs1 hs2 hn1 hn2 hn3 hn4 hn5 F17 (fun a i z => show ¬ (6 ≤ a ∧ a ≤ 10) by omega) F36 (fun a i z => show ¬ (a = 77 ∧ (i = 2 ∨ i = 29) ∨ 90 ≤ a ∧ a ≤ 93) by omega) p_24 p_41 (by omega) (by omega) (by omega) (by omega) (fun z9 => ⟨fun z => by omega, fun z => by omega, fun z => by omega, fun z => by omega, fun z => by omega⟩)
  refine to_popi (pc := 722) rw_0_722 (to_go (pc := 723) rw_0_723 ?_)
  have c_53 : M42.2.1 77 7 = (M.2.1 77 7) := (F_n F36 (show ¬ (77 = 77 ∧ (7 = 2 ∨ 7 = 29) ∨ 90 ≤ 77 ∧ 77 ≤ 93) by decide) (F_n F17 (show ¬ (6 ≤ 77 ∧ 77 ≤ 10) by decide) rfl))
  have t_54 : (M42.2.1 77 7).toInt = (M.2.1 77 7).toInt := congrArg Int32.toInt c_53
  have c_55 : M42.2.1 77 6 = (M.2.1 77 6) := (F_n F36 (show ¬ (77 = 77 ∧ (6 = 2 ∨ 6 = 29) ∨ 90 ≤ 77 ∧ 77 ≤ 93) by decide) (F_n F17 (show ¬ (6 ≤ 77 ∧ 77 ≤ 10) by decide) rfl))
  have t_56 : (M42.2.1 77 6).toInt = (M.2.1 77 6).toInt := congrArg Int32.toInt c_55
  have c_57 : M42.2.1 1 1 = (M.2.1 1 1) := (F_n F36 (show ¬ (1 = 77 ∧ (1 = 2 ∨ 1 = 29) ∨ 90 ≤ 1 ∧ 1 ≤ 93) by decide) (F_n F17 (show ¬ (6 ≤ 1 ∧ 1 ≤ 10) by decide) rfl))
  have t_58 : (M42.2.1 1 1).toInt = (M.2.1 1 1).toInt := congrArg Int32.toInt c_57
  have c_59 : M42.2.1 77 1 = (M.2.1 77 1) := (F_n F36 (show ¬ (77 = 77 ∧ (1 = 2 ∨ 1 = 29) ∨ 90 ≤ 77 ∧ 77 ≤ 93) by decide) (F_n F17 (show ¬ (6 ≤ 77 ∧ 77 ≤ 10) by decide) rfl))
  have t_60 : (M42.2.1 77 1).toInt = (M.2.1 77 1).toInt := congrArg Int32.toInt c_59
  have c_61 : M42.2.1 0 12 = (M.2.1 0 12) := (F_n F36 (show ¬ (0 = 77 ∧ (12 = 2 ∨ 12 = 29) ∨ 90 ≤ 0 ∧ 0 ≤ 93) by decide) (F_n F17 (show ¬ (6 ≤ 0 ∧ 0 ≤ 10) by decide) rfl))
  have t_62 : (M42.2.1 0 12).toInt = (M.2.1 0 12).toInt := congrArg Int32.toInt c_61
  have c_63 : M42.2.1 77 28 = (M.2.1 77 28) := (F_n F36 (show ¬ (77 = 77 ∧ (28 = 2 ∨ 28 = 29) ∨ 90 ≤ 77 ∧ 77 ≤ 93) by decide) (F_n F17 (show ¬ (6 ≤ 77 ∧ 77 ≤ 10) by decide) rfl))
  have t_64 : (M42.2.1 77 28).toInt = (M.2.1 77 28).toInt := congrArg Int32.toInt c_63
  have c_65 : M42.2.1 17 4 = (M.2.1 17 4) := (F_n F36 (show ¬ (17 = 77 ∧ (4 = 2 ∨ 4 = 29) ∨ 90 ≤ 17 ∧ 17 ≤ 93) by decide) (F_n F17 (show ¬ (6 ≤ 17 ∧ 17 ≤ 10) by decide) rfl))
  have t_66 : (M42.2.1 17 4).toInt = (M.2.1 17 4).toInt := congrArg Int32.toInt c_65
  have c_67 : M42.2.1 77 41 = (M.2.1 77 41) := (F_n F36 (show ¬ (77 = 77 ∧ (41 = 2 ∨ 41 = 29) ∨ 90 ≤ 77 ∧ 77 ≤ 93) by decide) (F_n F17 (show ¬ (6 ≤ 77 ∧ 77 ≤ 10) by decide) rfl))
  have t_68 : (M42.2.1 77 41).toInt = (M.2.1 77 41).toInt := congrArg Int32.toInt c_67
  have c_69 : M42.2.1 6 0 = (M25.2.1 6 0) := (F_n F36 (show ¬ (6 = 77 ∧ (0 = 2 ∨ 0 = 29) ∨ 90 ≤ 6 ∧ 6 ≤ 93) by decide) rfl)
  have t_70 : (M42.2.1 6 0).toInt = (M25.2.1 6 0).toInt := congrArg Int32.toInt c_69
  have c_71 : M42.2.1 28 8 = (M.2.1 28 8) := (F_n F36 (show ¬ (28 = 77 ∧ (8 = 2 ∨ 8 = 29) ∨ 90 ≤ 28 ∧ 28 ≤ 93) by decide) (F_n F17 (show ¬ (6 ≤ 28 ∧ 28 ≤ 10) by decide) rfl))
  have t_72 : (M42.2.1 28 8).toInt = (M.2.1 28 8).toInt := congrArg Int32.toInt c_71
  have c_73 : M42.2.1 77 43 = (M.2.1 77 43) := (F_n F36 (show ¬ (77 = 77 ∧ (43 = 2 ∨ 43 = 29) ∨ 90 ≤ 77 ∧ 77 ≤ 93) by decide) (F_n F17 (show ¬ (6 ≤ 77 ∧ 77 ≤ 10) by decide) rfl))
  have t_74 : (M42.2.1 77 43).toInt = (M.2.1 77 43).toInt := congrArg Int32.toInt c_73
  have c_75 : M42.2.1 28 9 = (M.2.1 28 9) := (F_n F36 (show ¬ (28 = 77 ∧ (9 = 2 ∨ 9 = 29) ∨ 90 ≤ 28 ∧ 28 ≤ 93) by decide) (F_n F17 (show ¬ (6 ≤ 28 ∧ 28 ≤ 10) by decide) rfl))
  have t_76 : (M42.2.1 28 9).toInt = (M.2.1 28 9).toInt := congrArg Int32.toInt c_75
  have c_77 : M42.2.1 77 42 = (M.2.1 77 42) := (F_n F36 (show ¬ (77 = 77 ∧ (42 = 2 ∨ 42 = 29) ∨ 90 ≤ 77 ∧ 77 ≤ 93) by decide) (F_n F17 (show ¬ (6 ≤ 77 ∧ 77 ≤ 10) by decide) rfl))
  have t_78 : (M42.2.1 77 42).toInt = (M.2.1 77 42).toInt := congrArg Int32.toInt c_77
  have j_79 := (PI_f (tg_612 F36) p_20)
  have j_80 := (NI_f (tg_613 F36) p_19)
  have j_81 := (QI_f (tg_614 F36) p_21)
  have j_82 := (PQE_r F36.2.1 (PQE_r F17.2.1 jPQE))
  have j_83 := (FA_f (tg_615 F36) (FA_f (tg_610 F17) jFA))
  have j_84 := (WC_f (tg_616 F36) (WC_f (tg_617 F17) jWC))
  have j_85 := (PS_f (tg_618 F36) (PS_f (tg_619 F17) jPS))
  have j_86 := (KQ_f (tg_620 F36) (KQ_f (tg_621 F17) jKQ))
  have j_87 := (TP_f (tg_622 F36) (TP_f (tg_623 F17) jTP))
  have j_88 := (W9_f (tg_624 F36) (W9_f (tg_625 F17) jW9))
  have j_89 := (KNA_F F36 (fun a i z => show ¬ (a = 77 ∧ (i = 2 ∨ i = 29) ∨ 90 ≤ a ∧ a ≤ 93) by omega) (KNA_F F17 (fun a i z => show ¬ (6 ≤ a ∧ a ≤ 10) by omega) jKNA))
  have j_90 := (NE_r F36.2.1 (NE_r F17.2.1 jNE))
  have j_91 := (W8_f (tg_626 F36) (W8_f (tg_627 F17) jW8))
  exact h M42 (u5) (u6) ⟨⟨⟨⟨⟨⟨⟨⟨⟨hG37, ⟨j_79, j_80, j_81, j_82⟩, ⟨j_83, j_84, p_38, j_85, j_86⟩, by omega, by omega⟩, j_87, j_88⟩, j_90, by omega⟩, AN_a z_52⟩, by omega⟩, j_91⟩, by omega⟩, z_52⟩, j_89, by omega, by omega⟩ (by omega) (by omega)
