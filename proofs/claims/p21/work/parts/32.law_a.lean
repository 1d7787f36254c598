theorem tg_485 {M M1 : mm_M} (F : FR (fun a i : Nat => a = 77 ∧ (i = 1 ∨ i = 2) ∨ a = 78) M M1) : ∀ a i : Nat, PI_r a → M1.2.1 a i = M.2.1 a i := fun a i z => F_n F (show ¬ (a = 77 ∧ (i = 1 ∨ i = 2) ∨ a = 78) by omega) rfl
theorem tg_486 {M M1 : mm_M} (F : FR (fun a i : Nat => a = 1 ∧ i = 1 ∨ a = 2) M M1) : ∀ a i : Nat, PI_r a → M1.2.1 a i = M.2.1 a i := fun a i z => F_n F (show ¬ (a = 1 ∧ i = 1 ∨ a = 2) by omega) rfl
theorem tg_487 {M M1 : mm_M} (F : FR (fun a i : Nat => a = 77 ∧ (i = 1 ∨ i = 2) ∨ a = 78) M M1) : ∀ a i : Nat, (7 ≤ a ∧ a ≤ 9) → M1.2.1 a i = M.2.1 a i := fun a i z => F_n F (show ¬ (a = 77 ∧ (i = 1 ∨ i = 2) ∨ a = 78) by omega) rfl
theorem tg_488 {M M1 : mm_M} (F : FR (fun a i : Nat => a = 1 ∧ i = 1 ∨ a = 2) M M1) : ∀ a i : Nat, (7 ≤ a ∧ a ≤ 9) → M1.2.1 a i = M.2.1 a i := fun a i z => F_n F (show ¬ (a = 1 ∧ i = 1 ∨ a = 2) by omega) rfl
theorem tg_489 {M M1 : mm_M} (F : FR (fun a i : Nat => a = 77 ∧ (i = 1 ∨ i = 2) ∨ a = 78) M M1) : ∀ a i : Nat, (a = 68 ∨ a = 69 ∨ a = 73 ∨ a = 74) → M1.2.1 a i = M.2.1 a i := fun a i z => F_n F (show ¬ (a = 77 ∧ (i = 1 ∨ i = 2) ∨ a = 78) by omega) rfl
theorem tg_490 {M M1 : mm_M} (F : FR (fun a i : Nat => a = 1 ∧ i = 1 ∨ a = 2) M M1) : ∀ a i : Nat, (a = 68 ∨ a = 69 ∨ a = 73 ∨ a = 74) → M1.2.1 a i = M.2.1 a i := fun a i z => F_n F (show ¬ (a = 1 ∧ i = 1 ∨ a = 2) by omega) rfl
theorem tg_491 {M M1 : mm_M} (F : FR (fun a i : Nat => a = 77 ∧ (i = 1 ∨ i = 2) ∨ a = 78) M M1) : ∀ a i : Nat, (81 ≤ a ∧ a ≤ 84) → M1.2.1 a i = M.2.1 a i := fun a i z => F_n F (show ¬ (a = 77 ∧ (i = 1 ∨ i = 2) ∨ a = 78) by omega) rfl
theorem tg_492 {M M1 : mm_M} (F : FR (fun a i : Nat => a = 1 ∧ i = 1 ∨ a = 2) M M1) : ∀ a i : Nat, (81 ≤ a ∧ a ≤ 84) → M1.2.1 a i = M.2.1 a i := fun a i z => F_n F (show ¬ (a = 1 ∧ i = 1 ∨ a = 2) by omega) rfl
theorem tg_493 {M M1 : mm_M} (F : FR (fun a i : Nat => a = 77 ∧ (i = 1 ∨ i = 2) ∨ a = 78) M M1) : ∀ a i : Nat, WC_r a i → M1.2.1 a i = M.2.1 a i := fun a i z => F_n F (show ¬ (a = 77 ∧ (i = 1 ∨ i = 2) ∨ a = 78) by omega) rfl
theorem tg_494 {M M1 : mm_M} (F : FR (fun a i : Nat => a = 1 ∧ i = 1 ∨ a = 2) M M1) : ∀ a i : Nat, WC_r a i → M1.2.1 a i = M.2.1 a i := fun a i z => F_n F (show ¬ (a = 1 ∧ i = 1 ∨ a = 2) by omega) rfl
theorem tg_495 {M M1 : mm_M} (F : FR (fun a i : Nat => a = 77 ∧ (i = 1 ∨ i = 2) ∨ a = 78) M M1) : ∀ a i : Nat, NJ_r a i → M1.2.1 a i = M.2.1 a i := fun a i z => F_n F (show ¬ (a = 77 ∧ (i = 1 ∨ i = 2) ∨ a = 78) by omega) rfl
theorem tg_496 {M M1 : mm_M} (F : FR (fun a i : Nat => a = 1 ∧ i = 1 ∨ a = 2) M M1) : ∀ a i : Nat, NJ_r a i → M1.2.1 a i = M.2.1 a i := fun a i z => F_n F (show ¬ (a = 1 ∧ i = 1 ∨ a = 2) by omega) rfl
theorem tg_497 {M M1 : mm_M} (F : FR (fun a i : Nat => a = 77 ∧ (i = 1 ∨ i = 2) ∨ a = 78) M M1) : ∀ a i : Nat, (a = 100 ∨ a = 77 ∧ i = 28) → M1.2.1 a i = M.2.1 a i := fun a i z => F_n F (show ¬ (a = 77 ∧ (i = 1 ∨ i = 2) ∨ a = 78) by omega) rfl
theorem tg_498 {M M1 : mm_M} (F : FR (fun a i : Nat => a = 1 ∧ i = 1 ∨ a = 2) M M1) : ∀ a i : Nat, (a = 100 ∨ a = 77 ∧ i = 28) → M1.2.1 a i = M.2.1 a i := fun a i z => F_n F (show ¬ (a = 1 ∧ i = 1 ∨ a = 2) by omega) rfl
theorem tg_499 {M M1 : mm_M} (F : FR (fun a i : Nat => a = 77 ∧ (i = 1 ∨ i = 2) ∨ a = 78) M M1) : ∀ a i : Nat, KQ_r a i → M1.2.1 a i = M.2.1 a i := fun a i z => F_n F (show ¬ (a = 77 ∧ (i = 1 ∨ i = 2) ∨ a = 78) by omega) rfl
theorem tg_500 {M M1 : mm_M} (F : FR (fun a i : Nat => a = 1 ∧ i = 1 ∨ a = 2) M M1) : ∀ a i : Nat, KQ_r a i → M1.2.1 a i = M.2.1 a i := fun a i z => F_n F (show ¬ (a = 1 ∧ i = 1 ∨ a = 2) by omega) rfl
theorem tg_501 {M M1 : mm_M} (F : FR (fun a i : Nat => a = 77 ∧ (i = 1 ∨ i = 2) ∨ a = 78) M M1) : ∀ a i : Nat, a = 79 → M1.2.1 a i = M.2.1 a i := fun a i z => F_n F (show ¬ (a = 77 ∧ (i = 1 ∨ i = 2) ∨ a = 78) by omega) rfl
theorem tg_502 {M M1 : mm_M} (F : FR (fun a i : Nat => a = 1 ∧ i = 1 ∨ a = 2) M M1) : ∀ a i : Nat, a = 79 → M1.2.1 a i = M.2.1 a i := fun a i z => F_n F (show ¬ (a = 1 ∧ i = 1 ∨ a = 2) by omega) rfl
theorem tg_503 {M M1 : mm_M} (F : FR (fun a i : Nat => a = 77 ∧ (i = 1 ∨ i = 2) ∨ a = 78) M M1) : ∀ a i : Nat, 88 ≤ a ∧ a ≤ 89 → M1.2.1 a i = M.2.1 a i := fun a i z => F_n F (show ¬ (a = 77 ∧ (i = 1 ∨ i = 2) ∨ a = 78) by omega) rfl
theorem tg_504 {M M1 : mm_M} (F : FR (fun a i : Nat => a = 1 ∧ i = 1 ∨ a = 2) M M1) : ∀ a i : Nat, 88 ≤ a ∧ a ≤ 89 → M1.2.1 a i = M.2.1 a i := fun a i z => F_n F (show ¬ (a = 1 ∧ i = 1 ∨ a = 2) by omega) rfl
theorem tg_505 {M M1 : mm_M} (F : FRX (fun a i : Nat => a ≤ 76 ∧ ¬ a = 2) M M1) : ∀ a i : Nat, (81 ≤ a ∧ a ≤ 84) → M1.2.1 a i = M.2.1 a i := fun a i z => Fx_n F (show ¬ (a ≤ 76 ∧ ¬ a = 2) by omega) rfl
theorem tg_506 {M M1 : mm_M} (F : FRX (fun a i : Nat => a ≤ 76 ∧ ¬ a = 2) M M1) : ∀ a i : Nat, WC_r a i → M1.2.1 a i = M.2.1 a i := fun a i z => Fx_n F (show ¬ (a ≤ 76 ∧ ¬ a = 2) by omega) rfl
theorem tg_507 {M M1 : mm_M} (F : FRX (fun a i : Nat => a ≤ 76 ∧ ¬ a = 2) M M1) : ∀ a i : Nat, NJ_r a i → M1.2.1 a i = M.2.1 a i := fun a i z => Fx_n F (show ¬ (a ≤ 76 ∧ ¬ a = 2) by omega) rfl
theorem tg_508 {M M1 : mm_M} (F : FRX (fun a i : Nat => a ≤ 76 ∧ ¬ a = 2) M M1) : ∀ a i : Nat, (a = 100 ∨ a = 77 ∧ i = 28) → M1.2.1 a i = M.2.1 a i := fun a i z => Fx_n F (show ¬ (a ≤ 76 ∧ ¬ a = 2) by omega) rfl
theorem tg_509 {M M1 : mm_M} (F : FRX (fun a i : Nat => a ≤ 76 ∧ ¬ a = 2) M M1) : ∀ a i : Nat, KQ_r a i → M1.2.1 a i = M.2.1 a i := fun a i z => Fx_n F (show ¬ (a ≤ 76 ∧ ¬ a = 2) by omega) rfl
theorem tg_510 {M M1 : mm_M} (F : FRX (fun a i : Nat => a ≤ 76 ∧ ¬ a = 2) M M1) : ∀ a i : Nat, a = 78 → M1.2.1 a i = M.2.1 a i := fun a i z => Fx_n F (show ¬ (a ≤ 76 ∧ ¬ a = 2) by omega) rfl
theorem tg_511 {M M1 : mm_M} (F : FRX (fun a i : Nat => a ≤ 76 ∧ ¬ a = 2) M M1) : ∀ a i : Nat, a = 79 → M1.2.1 a i = M.2.1 a i := fun a i z => Fx_n F (show ¬ (a ≤ 76 ∧ ¬ a = 2) by omega) rfl
theorem tg_512 {M M1 : mm_M} (F : FR (fun a i : Nat => a = 77 ∨ 79 < a ∧ a ≤ 87 ∨ a = 100) M M1) : ∀ a i : Nat, PI_r a → M1.2.1 a i = M.2.1 a i := fun a i z => F_n F (show ¬ (a = 77 ∨ 79 < a ∧ a ≤ 87 ∨ a = 100) by omega) rfl
theorem tg_513 {M M1 : mm_M} (F : FR (fun a i : Nat => a = 77 ∨ 79 < a ∧ a ≤ 87 ∨ a = 100) M M1) : ∀ a i : Nat, (7 ≤ a ∧ a ≤ 9) → M1.2.1 a i = M.2.1 a i := fun a i z => F_n F (show ¬ (a = 77 ∨ 79 < a ∧ a ≤ 87 ∨ a = 100) by omega) rfl
theorem tg_514 {M M1 : mm_M} (F : FR (fun a i : Nat => a = 77 ∨ 79 < a ∧ a ≤ 87 ∨ a = 100) M M1) : ∀ a i : Nat, (a = 68 ∨ a = 69 ∨ a = 73 ∨ a = 74) → M1.2.1 a i = M.2.1 a i := fun a i z => F_n F (show ¬ (a = 77 ∨ 79 < a ∧ a ≤ 87 ∨ a = 100) by omega) rfl
theorem tg_515 {M M1 : mm_M} (F : FR (fun a i : Nat => a = 77 ∨ 79 < a ∧ a ≤ 87 ∨ a = 100) M M1) : ∀ a i : Nat, (a = 1 ∧ i = 1 ∨ a = 2 ∨ a = 78) → M1.2.1 a i = M.2.1 a i := fun a i z => F_n F (show ¬ (a = 77 ∨ 79 < a ∧ a ≤ 87 ∨ a = 100) by omega) rfl
theorem tg_516 {M M1 : mm_M} (F : FR (fun a i : Nat => a = 77 ∨ 79 < a ∧ a ≤ 87 ∨ a = 100) M M1) : ∀ a i : Nat, a = 79 → M1.2.1 a i = M.2.1 a i := fun a i z => F_n F (show ¬ (a = 77 ∨ 79 < a ∧ a ≤ 87 ∨ a = 100) by omega) rfl
theorem tg_517 {M M1 : mm_M} (F : FR (fun a i : Nat => a = 77 ∨ 79 < a ∧ a ≤ 87 ∨ a = 100) M M1) : ∀ a i : Nat, 88 ≤ a ∧ a ≤ 89 → M1.2.1 a i = M.2.1 a i := fun a i z => F_n F (show ¬ (a = 77 ∨ 79 < a ∧ a ≤ 87 ∨ a = 100) by omega) rfl
theorem tg_518 {M M1 : mm_M} (F : FRX (fun a i : Nat => a ≤ 76 ∧ ¬ a = 2) M M1) : ∀ a i : Nat, 88 ≤ a ∧ a ≤ 89 → M1.2.1 a i = M.2.1 a i := fun a i z => Fx_n F (show ¬ (a ≤ 76 ∧ ¬ a = 2) by omega) rfl
theorem tg_519 {M M1 : mm_M} (F : FR (fun a i : Nat => a = 1 ∨ 3 ≤ a ∧ a ≤ 5 ∨ 11 ≤ a ∧ a ≤ 16 ∨ 18 ≤ a ∧ a ≤ 48) M M1) : ∀ a i : Nat, (81 ≤ a ∧ a ≤ 84) → M1.2.1 a i = M.2.1 a i := fun a i z => F_n F (show ¬ (a = 1 ∨ 3 ≤ a ∧ a ≤ 5 ∨ 11 ≤ a ∧ a ≤ 16 ∨ 18 ≤ a ∧ a ≤ 48) by omega) rfl
theorem tg_520 {M M1 : mm_M} (F : FR (fun a i : Nat => a = 1 ∨ 3 ≤ a ∧ a ≤ 5 ∨ 11 ≤ a ∧ a ≤ 16 ∨ 18 ≤ a ∧ a ≤ 48) M M1) : ∀ a i : Nat, WC_r a i → M1.2.1 a i = M.2.1 a i := fun a i z => F_n F (show ¬ (a = 1 ∨ 3 ≤ a ∧ a ≤ 5 ∨ 11 ≤ a ∧ a ≤ 16 ∨ 18 ≤ a ∧ a ≤ 48) by omega) rfl
theorem tg_521 {M M1 : mm_M} (F : FR (fun a i : Nat => a = 1 ∨ 3 ≤ a ∧ a ≤ 5 ∨ 11 ≤ a ∧ a ≤ 16 ∨ 18 ≤ a ∧ a ≤ 48) M M1) : ∀ a i : Nat, NJ_r a i → M1.2.1 a i = M.2.1 a i := fun a i z => F_n F (show ¬ (a = 1 ∨ 3 ≤ a ∧ a ≤ 5 ∨ 11 ≤ a ∧ a ≤ 16 ∨ 18 ≤ a ∧ a ≤ 48) by omega) rfl
theorem tg_522 {M M1 : mm_M} (F : FR (fun a i : Nat => a = 1 ∨ 3 ≤ a ∧ a ≤ 5 ∨ 11 ≤ a ∧ a ≤ 16 ∨ 18 ≤ a ∧ a ≤ 48) M M1) : ∀ a i : Nat, (a = 100 ∨ a = 77 ∧ i = 28) → M1.2.1 a i = M.2.1 a i := fun a i z => F_n F (show ¬ (a = 1 ∨ 3 ≤ a ∧ a ≤ 5 ∨ 11 ≤ a ∧ a ≤ 16 ∨ 18 ≤ a ∧ a ≤ 48) by omega) rfl
theorem tg_523 {M M1 : mm_M} (F : FR (fun a i : Nat => a = 1 ∨ 3 ≤ a ∧ a ≤ 5 ∨ 11 ≤ a ∧ a ≤ 16 ∨ 18 ≤ a ∧ a ≤ 48) M M1) : ∀ a i : Nat, KQ_r a i → M1.2.1 a i = M.2.1 a i := fun a i z => F_n F (show ¬ (a = 1 ∨ 3 ≤ a ∧ a ≤ 5 ∨ 11 ≤ a ∧ a ≤ 16 ∨ 18 ≤ a ∧ a ≤ 48) by omega) rfl
theorem tg_524 {M M1 : mm_M} (F : FR (fun a i : Nat => a = 1 ∨ 3 ≤ a ∧ a ≤ 5 ∨ 11 ≤ a ∧ a ≤ 16 ∨ 18 ≤ a ∧ a ≤ 48) M M1) : ∀ a i : Nat, a = 78 → M1.2.1 a i = M.2.1 a i := fun a i z => F_n F (show ¬ (a = 1 ∨ 3 ≤ a ∧ a ≤ 5 ∨ 11 ≤ a ∧ a ≤ 16 ∨ 18 ≤ a ∧ a ≤ 48) by omega) rfl
theorem tg_525 {M M1 : mm_M} (F : FR (fun a i : Nat => a = 1 ∨ 3 ≤ a ∧ a ≤ 5 ∨ 11 ≤ a ∧ a ≤ 16 ∨ 18 ≤ a ∧ a ≤ 48) M M1) : ∀ a i : Nat, a = 79 → M1.2.1 a i = M.2.1 a i := fun a i z => F_n F (show ¬ (a = 1 ∨ 3 ≤ a ∧ a ≤ 5 ∨ 11 ≤ a ∧ a ≤ 16 ∨ 18 ≤ a ∧ a ≤ 48) by omega) rfl
theorem tg_526 {M M1 : mm_M} (F : FR (fun a i : Nat => a = 1 ∨ 3 ≤ a ∧ a ≤ 5 ∨ 11 ≤ a ∧ a ≤ 16 ∨ 18 ≤ a ∧ a ≤ 48) M M1) : ∀ a i : Nat, (a = 77 ∧ 11 ≤ i ∧ i ≤ 13 ∨ 80 ≤ a ∧ a ≤ 84 ∧ i < 8 ∨ 85 ≤ a ∧ a ≤ 86 ∧ i < 12) → M1.2.1 a i = M.2.1 a i := fun a i z => F_n F (show ¬ (a = 1 ∨ 3 ≤ a ∧ a ≤ 5 ∨ 11 ≤ a ∧ a ≤ 16 ∨ 18 ≤ a ∧ a ≤ 48) by omega) rfl
theorem tg_527 {M M1 : mm_M} (F : FR (fun a i : Nat => a = 1 ∨ 3 ≤ a ∧ a ≤ 5 ∨ 11 ≤ a ∧ a ≤ 16 ∨ 18 ≤ a ∧ a ≤ 48) M M1) : ∀ a i : Nat, 88 ≤ a ∧ a ≤ 89 → M1.2.1 a i = M.2.1 a i := fun a i z => F_n F (show ¬ (a = 1 ∨ 3 ≤ a ∧ a ≤ 5 ∨ 11 ≤ a ∧ a ≤ 16 ∨ 18 ≤ a ∧ a ≤ 48) by omega) rfl
theorem tg_528 {M M1 : mm_M} (F : FR (fun a i : Nat => a = 1 ∨ 3 ≤ a ∧ a ≤ 5 ∨ 11 ≤ a ∧ a ≤ 16 ∨ 18 ≤ a ∧ a ≤ 48) M M1) : ∀ a i : Nat, (90 ≤ a ∧ a ≤ 93) → M1.2.1 a i = M.2.1 a i := fun a i z => F_n F (show ¬ (a = 1 ∨ 3 ≤ a ∧ a ≤ 5 ∨ 11 ≤ a ∧ a ≤ 16 ∨ 18 ≤ a ∧ a ≤ 48) by omega) rfl
theorem tg_529 {M M1 : mm_M} (F : FR (fun a i : Nat => a = 77 ∧ (1 ≤ i ∧ i ≤ 2 ∨ 4 ≤ i ∧ i ≤ 10 ∨ 42 ≤ i ∧ i ≤ 44 ∨ i = 52) ∨ 94 ≤ a ∧ a ≤ 111) M M1) : ∀ a i : Nat, PI_r a → M1.2.1 a i = M.2.1 a i := fun a i z => F_n F (show ¬ (a = 77 ∧ (1 ≤ i ∧ i ≤ 2 ∨ 4 ≤ i ∧ i ≤ 10 ∨ 42 ≤ i ∧ i ≤ 44 ∨ i = 52) ∨ 94 ≤ a ∧ a ≤ 111) by omega) rfl
theorem tg_530 {M M1 : mm_M} (F : FR (fun a i : Nat => a = 77 ∧ (1 ≤ i ∧ i ≤ 2 ∨ 4 ≤ i ∧ i ≤ 10 ∨ 42 ≤ i ∧ i ≤ 44 ∨ i = 52) ∨ 94 ≤ a ∧ a ≤ 111) M M1) : ∀ a i : Nat, (7 ≤ a ∧ a ≤ 9) → M1.2.1 a i = M.2.1 a i := fun a i z => F_n F (show ¬ (a = 77 ∧ (1 ≤ i ∧ i ≤ 2 ∨ 4 ≤ i ∧ i ≤ 10 ∨ 42 ≤ i ∧ i ≤ 44 ∨ i = 52) ∨ 94 ≤ a ∧ a ≤ 111) by omega) rfl
theorem tg_531 {M M1 : mm_M} (F : FR (fun a i : Nat => a = 77 ∧ (1 ≤ i ∧ i ≤ 2 ∨ 4 ≤ i ∧ i ≤ 10 ∨ 42 ≤ i ∧ i ≤ 44 ∨ i = 52) ∨ 94 ≤ a ∧ a ≤ 111) M M1) : ∀ a i : Nat, (a = 68 ∨ a = 69 ∨ a = 73 ∨ a = 74) → M1.2.1 a i = M.2.1 a i := fun a i z => F_n F (show ¬ (a = 77 ∧ (1 ≤ i ∧ i ≤ 2 ∨ 4 ≤ i ∧ i ≤ 10 ∨ 42 ≤ i ∧ i ≤ 44 ∨ i = 52) ∨ 94 ≤ a ∧ a ≤ 111) by omega) rfl
theorem tg_532 {M M1 : mm_M} (F : FR (fun a i : Nat => a = 77 ∧ (1 ≤ i ∧ i ≤ 2 ∨ 4 ≤ i ∧ i ≤ 10 ∨ 42 ≤ i ∧ i ≤ 44 ∨ i = 52) ∨ 94 ≤ a ∧ a ≤ 111) M M1) : ∀ a i : Nat, (a = 1 ∧ i = 1 ∨ a = 2 ∨ a = 78) → M1.2.1 a i = M.2.1 a i := fun a i z => F_n F (show ¬ (a = 77 ∧ (1 ≤ i ∧ i ≤ 2 ∨ 4 ≤ i ∧ i ≤ 10 ∨ 42 ≤ i ∧ i ≤ 44 ∨ i = 52) ∨ 94 ≤ a ∧ a ≤ 111) by omega) rfl
theorem tg_533 {M M1 : mm_M} (F : FR (fun a i : Nat => a = 77 ∧ (1 ≤ i ∧ i ≤ 2 ∨ 4 ≤ i ∧ i ≤ 10 ∨ 42 ≤ i ∧ i ≤ 44 ∨ i = 52) ∨ 94 ≤ a ∧ a ≤ 111) M M1) : ∀ a i : Nat, a = 79 → M1.2.1 a i = M.2.1 a i := fun a i z => F_n F (show ¬ (a = 77 ∧ (1 ≤ i ∧ i ≤ 2 ∨ 4 ≤ i ∧ i ≤ 10 ∨ 42 ≤ i ∧ i ≤ 44 ∨ i = 52) ∨ 94 ≤ a ∧ a ≤ 111) by omega) rfl
theorem tg_534 {M M1 : mm_M} (F : FR (fun a i : Nat => a = 77 ∧ (1 ≤ i ∧ i ≤ 2 ∨ 4 ≤ i ∧ i ≤ 10 ∨ 42 ≤ i ∧ i ≤ 44 ∨ i = 52) ∨ 94 ≤ a ∧ a ≤ 111) M M1) : ∀ a i : Nat, 88 ≤ a ∧ a ≤ 89 → M1.2.1 a i = M.2.1 a i := fun a i z => F_n F (show ¬ (a = 77 ∧ (1 ≤ i ∧ i ≤ 2 ∨ 4 ≤ i ∧ i ≤ 10 ∨ 42 ≤ i ∧ i ≤ 44 ∨ i = 52) ∨ 94 ≤ a ∧ a ≤ 111) by omega) rfl
theorem tg_535 {M M1 : mm_M} (F : FRX (fun a i : Nat => a = 1 ∨ 3 ≤ a ∧ a ≤ 5 ∨ 67 ≤ a ∧ a ≤ 76) M M1) : ∀ a i : Nat, (81 ≤ a ∧ a ≤ 84) → M1.2.1 a i = M.2.1 a i := fun a i z => Fx_n F (show ¬ (a = 1 ∨ 3 ≤ a ∧ a ≤ 5 ∨ 67 ≤ a ∧ a ≤ 76) by omega) rfl
theorem tg_536 {M M1 : mm_M} (F : FRX (fun a i : Nat => a = 1 ∨ 3 ≤ a ∧ a ≤ 5 ∨ 67 ≤ a ∧ a ≤ 76) M M1) : ∀ a i : Nat, WC_r a i → M1.2.1 a i = M.2.1 a i := fun a i z => Fx_n F (show ¬ (a = 1 ∨ 3 ≤ a ∧ a ≤ 5 ∨ 67 ≤ a ∧ a ≤ 76) by omega) rfl
theorem tg_537 {M M1 : mm_M} (F : FRX (fun a i : Nat => a = 1 ∨ 3 ≤ a ∧ a ≤ 5 ∨ 67 ≤ a ∧ a ≤ 76) M M1) : ∀ a i : Nat, NJ_r a i → M1.2.1 a i = M.2.1 a i := fun a i z => Fx_n F (show ¬ (a = 1 ∨ 3 ≤ a ∧ a ≤ 5 ∨ 67 ≤ a ∧ a ≤ 76) by omega) rfl
theorem tg_538 {M M1 : mm_M} (F : FRX (fun a i : Nat => a = 1 ∨ 3 ≤ a ∧ a ≤ 5 ∨ 67 ≤ a ∧ a ≤ 76) M M1) : ∀ a i : Nat, (a = 100 ∨ a = 77 ∧ i = 28) → M1.2.1 a i = M.2.1 a i := fun a i z => Fx_n F (show ¬ (a = 1 ∨ 3 ≤ a ∧ a ≤ 5 ∨ 67 ≤ a ∧ a ≤ 76) by omega) rfl
theorem tg_539 {M M1 : mm_M} (F : FRX (fun a i : Nat => a = 1 ∨ 3 ≤ a ∧ a ≤ 5 ∨ 67 ≤ a ∧ a ≤ 76) M M1) : ∀ a i : Nat, KQ_r a i → M1.2.1 a i = M.2.1 a i := fun a i z => Fx_n F (show ¬ (a = 1 ∨ 3 ≤ a ∧ a ≤ 5 ∨ 67 ≤ a ∧ a ≤ 76) by omega) rfl
theorem tg_540 {M M1 : mm_M} (F : FR (fun a i : Nat => a = 77 ∧ (1 ≤ i ∧ i ≤ 2 ∨ 4 ≤ i ∧ i ≤ 10 ∨ 57 ≤ i ∧ i ≤ 59 ∨ 65 ≤ i ∧ i ≤ 69) ∨ 112 ≤ a ∧ a ≤ 116) M M1) : ∀ a i : Nat, PI_r a → M1.2.1 a i = M.2.1 a i := fun a i z => F_n F (show ¬ (a = 77 ∧ (1 ≤ i ∧ i ≤ 2 ∨ 4 ≤ i ∧ i ≤ 10 ∨ 57 ≤ i ∧ i ≤ 59 ∨ 65 ≤ i ∧ i ≤ 69) ∨ 112 ≤ a ∧ a ≤ 116) by omega) rfl
theorem tg_541 {M M1 : mm_M} (F : FR (fun a i : Nat => a = 77 ∧ (1 ≤ i ∧ i ≤ 2 ∨ 4 ≤ i ∧ i ≤ 10 ∨ 57 ≤ i ∧ i ≤ 59 ∨ 65 ≤ i ∧ i ≤ 69) ∨ 112 ≤ a ∧ a ≤ 116) M M1) : ∀ a i : Nat, (7 ≤ a ∧ a ≤ 9) → M1.2.1 a i = M.2.1 a i := fun a i z => F_n F (show ¬ (a = 77 ∧ (1 ≤ i ∧ i ≤ 2 ∨ 4 ≤ i ∧ i ≤ 10 ∨ 57 ≤ i ∧ i ≤ 59 ∨ 65 ≤ i ∧ i ≤ 69) ∨ 112 ≤ a ∧ a ≤ 116) by omega) rfl
theorem tg_542 {M M1 : mm_M} (F : FR (fun a i : Nat => a = 77 ∧ (1 ≤ i ∧ i ≤ 2 ∨ 4 ≤ i ∧ i ≤ 10 ∨ 57 ≤ i ∧ i ≤ 59 ∨ 65 ≤ i ∧ i ≤ 69) ∨ 112 ≤ a ∧ a ≤ 116) M M1) : ∀ a i : Nat, (a = 68 ∨ a = 69 ∨ a = 73 ∨ a = 74) → M1.2.1 a i = M.2.1 a i := fun a i z => F_n F (show ¬ (a = 77 ∧ (1 ≤ i ∧ i ≤ 2 ∨ 4 ≤ i ∧ i ≤ 10 ∨ 57 ≤ i ∧ i ≤ 59 ∨ 65 ≤ i ∧ i ≤ 69) ∨ 112 ≤ a ∧ a ≤ 116) by omega) rfl
theorem tg_543 {M M1 : mm_M} (F : FR (fun a i : Nat => a = 77 ∧ (1 ≤ i ∧ i ≤ 2 ∨ 4 ≤ i ∧ i ≤ 10 ∨ 57 ≤ i ∧ i ≤ 59 ∨ 65 ≤ i ∧ i ≤ 69) ∨ 112 ≤ a ∧ a ≤ 116) M M1) : ∀ a i : Nat, (a = 1 ∧ i = 1 ∨ a = 2 ∨ a = 78) → M1.2.1 a i = M.2.1 a i := fun a i z => F_n F (show ¬ (a = 77 ∧ (1 ≤ i ∧ i ≤ 2 ∨ 4 ≤ i ∧ i ≤ 10 ∨ 57 ≤ i ∧ i ≤ 59 ∨ 65 ≤ i ∧ i ≤ 69) ∨ 112 ≤ a ∧ a ≤ 116) by omega) rfl
theorem tg_544 {M M1 : mm_M} (F : FR (fun a i : Nat => a = 77 ∧ (1 ≤ i ∧ i ≤ 2 ∨ 4 ≤ i ∧ i ≤ 10 ∨ 57 ≤ i ∧ i ≤ 59 ∨ 65 ≤ i ∧ i ≤ 69) ∨ 112 ≤ a ∧ a ≤ 116) M M1) : ∀ a i : Nat, a = 79 → M1.2.1 a i = M.2.1 a i := fun a i z => F_n F (show ¬ (a = 77 ∧ (1 ≤ i ∧ i ≤ 2 ∨ 4 ≤ i ∧ i ≤ 10 ∨ 57 ≤ i ∧ i ≤ 59 ∨ 65 ≤ i ∧ i ≤ 69) ∨ 112 ≤ a ∧ a ≤ 116) by omega) rfl
theorem tg_545 {M M1 : mm_M} (F : FRX (fun a i : Nat => a = 1 ∨ 3 ≤ a ∧ a ≤ 5 ∨ 67 ≤ a ∧ a ≤ 76) M M1) : ∀ a i : Nat, a = 79 → M1.2.1 a i = M.2.1 a i := fun a i z => Fx_n F (show ¬ (a = 1 ∨ 3 ≤ a ∧ a ≤ 5 ∨ 67 ≤ a ∧ a ≤ 76) by omega) rfl
theorem tg_546 {M M1 : mm_M} (F : FR (fun a i : Nat => a = 77 ∧ (1 ≤ i ∧ i ≤ 2 ∨ 4 ≤ i ∧ i ≤ 10 ∨ 57 ≤ i ∧ i ≤ 59 ∨ 65 ≤ i ∧ i ≤ 69) ∨ 112 ≤ a ∧ a ≤ 116) M M1) : ∀ a i : Nat, 88 ≤ a ∧ a ≤ 89 → M1.2.1 a i = M.2.1 a i := fun a i z => F_n F (show ¬ (a = 77 ∧ (1 ≤ i ∧ i ≤ 2 ∨ 4 ≤ i ∧ i ≤ 10 ∨ 57 ≤ i ∧ i ≤ 59 ∨ 65 ≤ i ∧ i ≤ 69) ∨ 112 ≤ a ∧ a ≤ 116) by omega) rfl
theorem tg_547 {M M1 : mm_M} (F : FRX (fun a i : Nat => a = 1 ∨ 3 ≤ a ∧ a ≤ 5 ∨ 67 ≤ a ∧ a ≤ 76) M M1) : ∀ a i : Nat, 88 ≤ a ∧ a ≤ 89 → M1.2.1 a i = M.2.1 a i := fun a i z => Fx_n F (show ¬ (a = 1 ∨ 3 ≤ a ∧ a ≤ 5 ∨ 67 ≤ a ∧ a ≤ 76) by omega) rfl
theorem tg_548 {M M1 : mm_M} (F : FR (fun a i : Nat => a = 77 ∧ i = 2) M M1) : ∀ a i : Nat, PI_r a → M1.2.1 a i = M.2.1 a i := fun a i z => F_n F (show ¬ (a = 77 ∧ i = 2) by omega) rfl
theorem tg_549 {M M1 : mm_M} (F : FR (fun a i : Nat => a = 77 ∧ i = 2) M M1) : ∀ a i : Nat, (7 ≤ a ∧ a ≤ 9) → M1.2.1 a i = M.2.1 a i := fun a i z => F_n F (show ¬ (a = 77 ∧ i = 2) by omega) rfl
theorem tg_550 {M M1 : mm_M} (F : FR (fun a i : Nat => a = 77 ∧ i = 2) M M1) : ∀ a i : Nat, (a = 68 ∨ a = 69 ∨ a = 73 ∨ a = 74) → M1.2.1 a i = M.2.1 a i := fun a i z => F_n F (show ¬ (a = 77 ∧ i = 2) by omega) rfl
theorem tg_551 {M M1 : mm_M} (F : FR (fun a i : Nat => a = 77 ∧ i = 2) M M1) : ∀ a i : Nat, (81 ≤ a ∧ a ≤ 84) → M1.2.1 a i = M.2.1 a i := fun a i z => F_n F (show ¬ (a = 77 ∧ i = 2) by omega) rfl
theorem tg_552 {M M1 : mm_M} (F : FR (fun a i : Nat => a = 77 ∧ i = 2) M M1) : ∀ a i : Nat, WC_r a i → M1.2.1 a i = M.2.1 a i := fun a i z => F_n F (show ¬ (a = 77 ∧ i = 2) by omega) rfl
theorem tg_553 {M M1 : mm_M} (F : FR (fun a i : Nat => a < 0) M M1) : ∀ a i : Nat, WC_r a i → M1.2.1 a i = M.2.1 a i := fun a i z => F_n F (show ¬ (a < 0) by omega) rfl
theorem tg_554 {M M1 : mm_M} (F : FR (fun a i : Nat => a = 77 ∧ i = 2) M M1) : ∀ a i : Nat, NJ_r a i → M1.2.1 a i = M.2.1 a i := fun a i z => F_n F (show ¬ (a = 77 ∧ i = 2) by omega) rfl
theorem tg_555 {M M1 : mm_M} (F : FR (fun a i : Nat => a = 77 ∧ i = 2) M M1) : ∀ a i : Nat, (a = 100 ∨ a = 77 ∧ i = 28) → M1.2.1 a i = M.2.1 a i := fun a i z => F_n F (show ¬ (a = 77 ∧ i = 2) by omega) rfl
theorem tg_556 {M M1 : mm_M} (F : FR (fun a i : Nat => a < 0) M M1) : ∀ a i : Nat, (a = 100 ∨ a = 77 ∧ i = 28) → M1.2.1 a i = M.2.1 a i := fun a i z => F_n F (show ¬ (a < 0) by omega) rfl
theorem tg_557 {M M1 : mm_M} (F : FR (fun a i : Nat => a = 77 ∧ i = 2) M M1) : ∀ a i : Nat, KQ_r a i → M1.2.1 a i = M.2.1 a i := fun a i z => F_n F (show ¬ (a = 77 ∧ i = 2) by omega) rfl
theorem tg_558 {M M1 : mm_M} (F : FR (fun a i : Nat => a = 77 ∧ i = 2) M M1) : ∀ a i : Nat, (a = 1 ∧ i = 1 ∨ a = 2 ∨ a = 78) → M1.2.1 a i = M.2.1 a i := fun a i z => F_n F (show ¬ (a = 77 ∧ i = 2) by omega) rfl
theorem tg_559 {M M1 : mm_M} (F : FR (fun a i : Nat => a < 0) M M1) : ∀ a i : Nat, (a = 1 ∧ i = 1 ∨ a = 2 ∨ a = 78) → M1.2.1 a i = M.2.1 a i := fun a i z => F_n F (show ¬ (a < 0) by omega) rfl
theorem tg_560 {M M1 : mm_M} (F : FR (fun a i : Nat => a = 77 ∧ i = 2) M M1) : ∀ a i : Nat, a = 79 → M1.2.1 a i = M.2.1 a i := fun a i z => F_n F (show ¬ (a = 77 ∧ i = 2) by omega) rfl
theorem tg_561 {M M1 : mm_M} (F : FR (fun a i : Nat => a = 77 ∧ i = 2) M M1) : ∀ a i : Nat, 88 ≤ a ∧ a ≤ 89 → M1.2.1 a i = M.2.1 a i := fun a i z => F_n F (show ¬ (a = 77 ∧ i = 2) by omega) rfl
theorem tg_562 {M M1 : mm_M} (F : FR (fun a i : Nat => a < 0) M M1) : ∀ a i : Nat, 88 ≤ a ∧ a ≤ 89 → M1.2.1 a i = M.2.1 a i := fun a i z => F_n F (show ¬ (a < 0) by omega) rfl
theorem tg_563 {M M1 : mm_M} (F : FR (fun a i : Nat => 11 ≤ a ∧ a ≤ 16) M M1) : ∀ a i : Nat, (81 ≤ a ∧ a ≤ 84) → M1.2.1 a i = M.2.1 a i := fun a i z => F_n F (show ¬ (11 ≤ a ∧ a ≤ 16) by omega) rfl
theorem tg_564 {M M1 : mm_M} (F : FR (fun a i : Nat => 11 ≤ a ∧ a ≤ 16) M M1) : ∀ a i : Nat, (a = 77 ∧ 11 ≤ i ∧ i ≤ 13 ∨ 80 ≤ a ∧ a ≤ 84 ∧ i < 8 ∨ 85 ≤ a ∧ a ≤ 86 ∧ i < 12) → M1.2.1 a i = M.2.1 a i := fun a i z => F_n F (show ¬ (11 ≤ a ∧ a ≤ 16) by omega) rfl
theorem tg_565 {M M1 : mm_M} (F : FR (fun a i : Nat => 11 ≤ a ∧ a ≤ 16) M M1) : ∀ a i : Nat, 88 ≤ a ∧ a ≤ 89 → M1.2.1 a i = M.2.1 a i := fun a i z => F_n F (show ¬ (11 ≤ a ∧ a ≤ 16) by omega) rfl
theorem tg_566 {M M1 : mm_M} (F : FR (fun a i : Nat => 11 ≤ a ∧ a ≤ 16) M M1) : ∀ a i : Nat, (90 ≤ a ∧ a ≤ 93) → M1.2.1 a i = M.2.1 a i := fun a i z => F_n F (show ¬ (11 ≤ a ∧ a ≤ 16) by omega) rfl
theorem tg_567 {M M1 : mm_M} (F : FR (fun a i : Nat => a = 77 ∧ i = 2 ∨ 94 ≤ a ∧ a ≤ 98) M M1) : ∀ a i : Nat, PI_r a → M1.2.1 a i = M.2.1 a i := fun a i z => F_n F (show ¬ (a = 77 ∧ i = 2 ∨ 94 ≤ a ∧ a ≤ 98) by omega) rfl
theorem tg_568 {M M1 : mm_M} (F : FR (fun a i : Nat => a = 77 ∧ i = 2 ∨ 94 ≤ a ∧ a ≤ 98) M M1) : ∀ a i : Nat, (7 ≤ a ∧ a ≤ 9) → M1.2.1 a i = M.2.1 a i := fun a i z => F_n F (show ¬ (a = 77 ∧ i = 2 ∨ 94 ≤ a ∧ a ≤ 98) by omega) rfl
theorem tg_569 {M M1 : mm_M} (F : FR (fun a i : Nat => a = 77 ∧ i = 2 ∨ 94 ≤ a ∧ a ≤ 98) M M1) : ∀ a i : Nat, (a = 68 ∨ a = 69 ∨ a = 73 ∨ a = 74) → M1.2.1 a i = M.2.1 a i := fun a i z => F_n F (show ¬ (a = 77 ∧ i = 2 ∨ 94 ≤ a ∧ a ≤ 98) by omega) rfl
theorem tg_570 {M M1 : mm_M} (F : FR (fun a i : Nat => a = 77 ∧ i = 2 ∨ 94 ≤ a ∧ a ≤ 98) M M1) : ∀ a i : Nat, (81 ≤ a ∧ a ≤ 84) → M1.2.1 a i = M.2.1 a i := fun a i z => F_n F (show ¬ (a = 77 ∧ i = 2 ∨ 94 ≤ a ∧ a ≤ 98) by omega) rfl
theorem tg_571 {M M1 : mm_M} (F : FR (fun a i : Nat => a = 77 ∧ i = 2 ∨ 94 ≤ a ∧ a ≤ 98) M M1) : ∀ a i : Nat, WC_r a i → M1.2.1 a i = M.2.1 a i := fun a i z => F_n F (show ¬ (a = 77 ∧ i = 2 ∨ 94 ≤ a ∧ a ≤ 98) by omega) rfl
theorem tg_572 {M M1 : mm_M} (F : FR (fun a i : Nat => 11 ≤ a ∧ a ≤ 16) M M1) : ∀ a i : Nat, WC_r a i → M1.2.1 a i = M.2.1 a i := fun a i z => F_n F (show ¬ (11 ≤ a ∧ a ≤ 16) by omega) rfl
theorem tg_573 {M M1 : mm_M} (F : FR (fun a i : Nat => a = 77 ∧ i = 2 ∨ 94 ≤ a ∧ a ≤ 98) M M1) : ∀ a i : Nat, NJ_r a i → M1.2.1 a i = M.2.1 a i := fun a i z => F_n F (show ¬ (a = 77 ∧ i = 2 ∨ 94 ≤ a ∧ a ≤ 98) by omega) rfl
theorem tg_574 {M M1 : mm_M} (F : FR (fun a i : Nat => 11 ≤ a ∧ a ≤ 16) M M1) : ∀ a i : Nat, NJ_r a i → M1.2.1 a i = M.2.1 a i := fun a i z => F_n F (show ¬ (11 ≤ a ∧ a ≤ 16) by omega) rfl
theorem tg_575 {M M1 : mm_M} (F : FR (fun a i : Nat => a = 77 ∧ i = 2 ∨ 94 ≤ a ∧ a ≤ 98) M M1) : ∀ a i : Nat, (a = 100 ∨ a = 77 ∧ i = 28) → M1.2.1 a i = M.2.1 a i := fun a i z => F_n F (show ¬ (a = 77 ∧ i = 2 ∨ 94 ≤ a ∧ a ≤ 98) by omega) rfl
theorem tg_576 {M M1 : mm_M} (F : FR (fun a i : Nat => 11 ≤ a ∧ a ≤ 16) M M1) : ∀ a i : Nat, (a = 100 ∨ a = 77 ∧ i = 28) → M1.2.1 a i = M.2.1 a i := fun a i z => F_n F (show ¬ (11 ≤ a ∧ a ≤ 16) by omega) rfl
theorem tg_577 {M M1 : mm_M} (F : FR (fun a i : Nat => a = 77 ∧ i = 2 ∨ 94 ≤ a ∧ a ≤ 98) M M1) : ∀ a i : Nat, KQ_r a i → M1.2.1 a i = M.2.1 a i := fun a i z => F_n F (show ¬ (a = 77 ∧ i = 2 ∨ 94 ≤ a ∧ a ≤ 98) by omega) rfl
theorem tg_578 {M M1 : mm_M} (F : FR (fun a i : Nat => 11 ≤ a ∧ a ≤ 16) M M1) : ∀ a i : Nat, KQ_r a i → M1.2.1 a i = M.2.1 a i := fun a i z => F_n F (show ¬ (11 ≤ a ∧ a ≤ 16) by omega) rfl
theorem tg_579 {M M1 : mm_M} (F : FR (fun a i : Nat => a = 77 ∧ i = 2 ∨ 94 ≤ a ∧ a ≤ 98) M M1) : ∀ a i : Nat, (a = 1 ∧ i = 1 ∨ a = 2 ∨ a = 78) → M1.2.1 a i = M.2.1 a i := fun a i z => F_n F (show ¬ (a = 77 ∧ i = 2 ∨ 94 ≤ a ∧ a ≤ 98) by omega) rfl
theorem tg_580 {M M1 : mm_M} (F : FR (fun a i : Nat => 11 ≤ a ∧ a ≤ 16) M M1) : ∀ a i : Nat, (a = 1 ∧ i = 1 ∨ a = 2 ∨ a = 78) → M1.2.1 a i = M.2.1 a i := fun a i z => F_n F (show ¬ (11 ≤ a ∧ a ≤ 16) by omega) rfl
theorem tg_581 {M M1 : mm_M} (F : FR (fun a i : Nat => a = 77 ∧ i = 2 ∨ 94 ≤ a ∧ a ≤ 98) M M1) : ∀ a i : Nat, a = 79 → M1.2.1 a i = M.2.1 a i := fun a i z => F_n F (show ¬ (a = 77 ∧ i = 2 ∨ 94 ≤ a ∧ a ≤ 98) by omega) rfl
theorem tg_582 {M M1 : mm_M} (F : FR (fun a i : Nat => 11 ≤ a ∧ a ≤ 16) M M1) : ∀ a i : Nat, a = 79 → M1.2.1 a i = M.2.1 a i := fun a i z => F_n F (show ¬ (11 ≤ a ∧ a ≤ 16) by omega) rfl
theorem tg_583 {M M1 : mm_M} (F : FR (fun a i : Nat => a = 77 ∧ i = 2 ∨ 94 ≤ a ∧ a ≤ 98) M M1) : ∀ a i : Nat, 88 ≤ a ∧ a ≤ 89 → M1.2.1 a i = M.2.1 a i := fun a i z => F_n F (show ¬ (a = 77 ∧ i = 2 ∨ 94 ≤ a ∧ a ≤ 98) by omega) rfl
theorem tg_584 {M M1 : mm_M} (F : FR (fun a i : Nat => a = 0 ∧ i = 12 ∨ 18 ≤ a ∧ a ≤ 27) M M1) : ∀ a i : Nat, (a = 100 ∨ a = 77 ∧ i = 28) → M1.2.1 a i = M.2.1 a i := fun a i z => F_n F (show ¬ (a = 0 ∧ i = 12 ∨ 18 ≤ a ∧ a ≤ 27) by omega) rfl
theorem tg_585 {M M1 : mm_M} (F : FR (fun a i : Nat => a = 77 ∧ (i = 2 ∨ i = 28) ∨ a = 99 ∨ a = 100) M M1) : ∀ a i : Nat, PI_r a → M1.2.1 a i = M.2.1 a i := fun a i z => F_n F (show ¬ (a = 77 ∧ (i = 2 ∨ i = 28) ∨ a = 99 ∨ a = 100) by omega) rfl
theorem tg_586 {M M1 : mm_M} (F : FR (fun a i : Nat => a = 77 ∧ (i = 2 ∨ i = 28) ∨ a = 99 ∨ a = 100) M M1) : ∀ a i : Nat, (7 ≤ a ∧ a ≤ 9) → M1.2.1 a i = M.2.1 a i := fun a i z => F_n F (show ¬ (a = 77 ∧ (i = 2 ∨ i = 28) ∨ a = 99 ∨ a = 100) by omega) rfl
theorem tg_587 {M M1 : mm_M} (F : FR (fun a i : Nat => a = 77 ∧ (i = 2 ∨ i = 28) ∨ a = 99 ∨ a = 100) M M1) : ∀ a i : Nat, (a = 68 ∨ a = 69 ∨ a = 73 ∨ a = 74) → M1.2.1 a i = M.2.1 a i := fun a i z => F_n F (show ¬ (a = 77 ∧ (i = 2 ∨ i = 28) ∨ a = 99 ∨ a = 100) by omega) rfl
theorem tg_588 {M M1 : mm_M} (F : FR (fun a i : Nat => a = 77 ∧ (i = 2 ∨ i = 28) ∨ a = 99 ∨ a = 100) M M1) : ∀ a i : Nat, (81 ≤ a ∧ a ≤ 84) → M1.2.1 a i = M.2.1 a i := fun a i z => F_n F (show ¬ (a = 77 ∧ (i = 2 ∨ i = 28) ∨ a = 99 ∨ a = 100) by omega) rfl
theorem tg_589 {M M1 : mm_M} (F : FR (fun a i : Nat => a = 0 ∧ i = 12 ∨ 18 ≤ a ∧ a ≤ 27) M M1) : ∀ a i : Nat, (81 ≤ a ∧ a ≤ 84) → M1.2.1 a i = M.2.1 a i := fun a i z => F_n F (show ¬ (a = 0 ∧ i = 12 ∨ 18 ≤ a ∧ a ≤ 27) by omega) rfl
theorem tg_590 {M M1 : mm_M} (F : FR (fun a i : Nat => a = 77 ∧ (i = 2 ∨ i = 28) ∨ a = 99 ∨ a = 100) M M1) : ∀ a i : Nat, WC_r a i → M1.2.1 a i = M.2.1 a i := fun a i z => F_n F (show ¬ (a = 77 ∧ (i = 2 ∨ i = 28) ∨ a = 99 ∨ a = 100) by omega) rfl
theorem tg_591 {M M1 : mm_M} (F : FR (fun a i : Nat => a = 0 ∧ i = 12 ∨ 18 ≤ a ∧ a ≤ 27) M M1) : ∀ a i : Nat, WC_r a i → M1.2.1 a i = M.2.1 a i := fun a i z => F_n F (show ¬ (a = 0 ∧ i = 12 ∨ 18 ≤ a ∧ a ≤ 27) by omega) rfl
theorem tg_592 {M M1 : mm_M} (F : FR (fun a i : Nat => a = 77 ∧ (i = 2 ∨ i = 28) ∨ a = 99 ∨ a = 100) M M1) : ∀ a i : Nat, NJ_r a i → M1.2.1 a i = M.2.1 a i := fun a i z => F_n F (show ¬ (a = 77 ∧ (i = 2 ∨ i = 28) ∨ a = 99 ∨ a = 100) by omega) rfl
theorem tg_593 {M M1 : mm_M} (F : FR (fun a i : Nat => a = 0 ∧ i = 12 ∨ 18 ≤ a ∧ a ≤ 27) M M1) : ∀ a i : Nat, NJ_r a i → M1.2.1 a i = M.2.1 a i := fun a i z => F_n F (show ¬ (a = 0 ∧ i = 12 ∨ 18 ≤ a ∧ a ≤ 27) by omega) rfl
theorem tg_594 {M M1 : mm_M} (F : FR (fun a i : Nat => a = 77 ∧ (i = 2 ∨ i = 28) ∨ a = 99 ∨ a = 100) M M1) : ∀ a i : Nat, KQ_r a i → M1.2.1 a i = M.2.1 a i := fun a i z => F_n F (show ¬ (a = 77 ∧ (i = 2 ∨ i = 28) ∨ a = 99 ∨ a = 100) by omega) rfl
theorem tg_595 {M M1 : mm_M} (F : FR (fun a i : Nat => a = 0 ∧ i = 12 ∨ 18 ≤ a ∧ a ≤ 27) M M1) : ∀ a i : Nat, KQ_r a i → M1.2.1 a i = M.2.1 a i := fun a i z => F_n F (show ¬ (a = 0 ∧ i = 12 ∨ 18 ≤ a ∧ a ≤ 27) by omega) rfl
theorem tg_596 {M M1 : mm_M} (F : FR (fun a i : Nat => a = 77 ∧ (i = 2 ∨ i = 28) ∨ a = 99 ∨ a = 100) M M1) : ∀ a i : Nat, (a = 1 ∧ i = 1 ∨ a = 2 ∨ a = 78) → M1.2.1 a i = M.2.1 a i := fun a i z => F_n F (show ¬ (a = 77 ∧ (i = 2 ∨ i = 28) ∨ a = 99 ∨ a = 100) by omega) rfl
theorem tg_597 {M M1 : mm_M} (F : FR (fun a i : Nat => a = 0 ∧ i = 12 ∨ 18 ≤ a ∧ a ≤ 27) M M1) : ∀ a i : Nat, (a = 1 ∧ i = 1 ∨ a = 2 ∨ a = 78) → M1.2.1 a i = M.2.1 a i := fun a i z => F_n F (show ¬ (a = 0 ∧ i = 12 ∨ 18 ≤ a ∧ a ≤ 27) by omega) rfl
theorem tg_598 {M M1 : mm_M} (F : FR (fun a i : Nat => a = 77 ∧ (i = 2 ∨ i = 28) ∨ a = 99 ∨ a = 100) M M1) : ∀ a i : Nat, a = 79 → M1.2.1 a i = M.2.1 a i := fun a i z => F_n F (show ¬ (a = 77 ∧ (i = 2 ∨ i = 28) ∨ a = 99 ∨ a = 100) by omega) rfl
theorem tg_599 {M M1 : mm_M} (F : FR (fun a i : Nat => a = 0 ∧ i = 12 ∨ 18 ≤ a ∧ a ≤ 27) M M1) : ∀ a i : Nat, a = 79 → M1.2.1 a i = M.2.1 a i := fun a i z => F_n F (show ¬ (a = 0 ∧ i = 12 ∨ 18 ≤ a ∧ a ≤ 27) by omega) rfl
theorem tg_600 {M M1 : mm_M} (F : FR (fun a i : Nat => a = 77 ∧ (i = 2 ∨ i = 28) ∨ a = 99 ∨ a = 100) M M1) : ∀ a i : Nat, 88 ≤ a ∧ a ≤ 89 → M1.2.1 a i = M.2.1 a i := fun a i z => F_n F (show ¬ (a = 77 ∧ (i = 2 ∨ i = 28) ∨ a = 99 ∨ a = 100) by omega) rfl
theorem tg_601 {M M1 : mm_M} (F : FR (fun a i : Nat => a = 0 ∧ i = 12 ∨ 18 ≤ a ∧ a ≤ 27) M M1) : ∀ a i : Nat, 88 ≤ a ∧ a ≤ 89 → M1.2.1 a i = M.2.1 a i := fun a i z => F_n F (show ¬ (a = 0 ∧ i = 12 ∨ 18 ≤ a ∧ a ≤ 27) by omega) rfl
theorem tg_602 {M M1 : mm_M} (F : FR (fun a i : Nat => 6 ≤ a ∧ a ≤ 10) M M1) : ∀ a i : Nat, NJ_r a i → M1.2.1 a i = M.2.1 a i := fun a i z => F_n F (show ¬ (6 ≤ a ∧ a ≤ 10) by omega) rfl
theorem tg_603 {M M1 : mm_M} (F : FR (fun a i : Nat => 6 ≤ a ∧ a ≤ 10) M M1) : ∀ a i : Nat, (81 ≤ a ∧ a ≤ 84) → M1.2.1 a i = M.2.1 a i := fun a i z => F_n F (show ¬ (6 ≤ a ∧ a ≤ 10) by omega) rfl
theorem tg_604 {M M1 : mm_M} (F : FR (fun a i : Nat => 6 ≤ a ∧ a ≤ 10) M M1) : ∀ a i : Nat, (a = 77 ∧ 11 ≤ i ∧ i ≤ 13 ∨ 80 ≤ a ∧ a ≤ 84 ∧ i < 8 ∨ 85 ≤ a ∧ a ≤ 86 ∧ i < 12) → M1.2.1 a i = M.2.1 a i := fun a i z => F_n F (show ¬ (6 ≤ a ∧ a ≤ 10) by omega) rfl
theorem tg_605 {M M1 : mm_M} (F : FR (fun a i : Nat => a = 77 ∧ (i = 2 ∨ i = 29) ∨ 90 ≤ a ∧ a ≤ 93) M M1) : ∀ a i : Nat, PI_r a → M1.2.1 a i = M.2.1 a i := fun a i z => F_n F (show ¬ (a = 77 ∧ (i = 2 ∨ i = 29) ∨ 90 ≤ a ∧ a ≤ 93) by omega) rfl
theorem tg_606 {M M1 : mm_M} (F : FR (fun a i : Nat => a = 77 ∧ (i = 2 ∨ i = 29) ∨ 90 ≤ a ∧ a ≤ 93) M M1) : ∀ a i : Nat, (7 ≤ a ∧ a ≤ 9) → M1.2.1 a i = M.2.1 a i := fun a i z => F_n F (show ¬ (a = 77 ∧ (i = 2 ∨ i = 29) ∨ 90 ≤ a ∧ a ≤ 93) by omega) rfl
theorem tg_607 {M M1 : mm_M} (F : FR (fun a i : Nat => a = 77 ∧ (i = 2 ∨ i = 29) ∨ 90 ≤ a ∧ a ≤ 93) M M1) : ∀ a i : Nat, (a = 68 ∨ a = 69 ∨ a = 73 ∨ a = 74) → M1.2.1 a i = M.2.1 a i := fun a i z => F_n F (show ¬ (a = 77 ∧ (i = 2 ∨ i = 29) ∨ 90 ≤ a ∧ a ≤ 93) by omega) rfl
theorem tg_608 {M M1 : mm_M} (F : FR (fun a i : Nat => a = 77 ∧ (i = 2 ∨ i = 29) ∨ 90 ≤ a ∧ a ≤ 93) M M1) : ∀ a i : Nat, (81 ≤ a ∧ a ≤ 84) → M1.2.1 a i = M.2.1 a i := fun a i z => F_n F (show ¬ (a = 77 ∧ (i = 2 ∨ i = 29) ∨ 90 ≤ a ∧ a ≤ 93) by omega) rfl
theorem tg_609 {M M1 : mm_M} (F : FR (fun a i : Nat => a = 77 ∧ (i = 2 ∨ i = 29) ∨ 90 ≤ a ∧ a ≤ 93) M M1) : ∀ a i : Nat, WC_r a i → M1.2.1 a i = M.2.1 a i := fun a i z => F_n F (show ¬ (a = 77 ∧ (i = 2 ∨ i = 29) ∨ 90 ≤ a ∧ a ≤ 93) by omega) rfl
theorem tg_610 {M M1 : mm_M} (F : FR (fun a i : Nat => 6 ≤ a ∧ a ≤ 10) M M1) : ∀ a i : Nat, WC_r a i → M1.2.1 a i = M.2.1 a i := fun a i z => F_n F (show ¬ (6 ≤ a ∧ a ≤ 10) by omega) rfl
theorem tg_611 {M M1 : mm_M} (F : FR (fun a i : Nat => a = 77 ∧ (i = 2 ∨ i = 29) ∨ 90 ≤ a ∧ a ≤ 93) M M1) : ∀ a i : Nat, (a = 100 ∨ a = 77 ∧ i = 28) → M1.2.1 a i = M.2.1 a i := fun a i z => F_n F (show ¬ (a = 77 ∧ (i = 2 ∨ i = 29) ∨ 90 ≤ a ∧ a ≤ 93) by omega) rfl
theorem tg_612 {M M1 : mm_M} (F : FR (fun a i : Nat => 6 ≤ a ∧ a ≤ 10) M M1) : ∀ a i : Nat, (a = 100 ∨ a = 77 ∧ i = 28) → M1.2.1 a i = M.2.1 a i := fun a i z => F_n F (show ¬ (6 ≤ a ∧ a ≤ 10) by omega) rfl
theorem tg_613 {M M1 : mm_M} (F : FR (fun a i : Nat => a = 77 ∧ (i = 2 ∨ i = 29) ∨ 90 ≤ a ∧ a ≤ 93) M M1) : ∀ a i : Nat, KQ_r a i → M1.2.1 a i = M.2.1 a i := fun a i z => F_n F (show ¬ (a = 77 ∧ (i = 2 ∨ i = 29) ∨ 90 ≤ a ∧ a ≤ 93) by omega) rfl
theorem tg_614 {M M1 : mm_M} (F : FR (fun a i : Nat => 6 ≤ a ∧ a ≤ 10) M M1) : ∀ a i : Nat, KQ_r a i → M1.2.1 a i = M.2.1 a i := fun a i z => F_n F (show ¬ (6 ≤ a ∧ a ≤ 10) by omega) rfl
theorem tg_615 {M M1 : mm_M} (F : FR (fun a i : Nat => a = 77 ∧ (i = 2 ∨ i = 29) ∨ 90 ≤ a ∧ a ≤ 93) M M1) : ∀ a i : Nat, (a = 1 ∧ i = 1 ∨ a = 2 ∨ a = 78) → M1.2.1 a i = M.2.1 a i := fun a i z => F_n F (show ¬ (a = 77 ∧ (i = 2 ∨ i = 29) ∨ 90 ≤ a ∧ a ≤ 93) by omega) rfl
theorem tg_616 {M M1 : mm_M} (F : FR (fun a i : Nat => 6 ≤ a ∧ a ≤ 10) M M1) : ∀ a i : Nat, (a = 1 ∧ i = 1 ∨ a = 2 ∨ a = 78) → M1.2.1 a i = M.2.1 a i := fun a i z => F_n F (show ¬ (6 ≤ a ∧ a ≤ 10) by omega) rfl
theorem tg_617 {M M1 : mm_M} (F : FR (fun a i : Nat => a = 77 ∧ (i = 2 ∨ i = 29) ∨ 90 ≤ a ∧ a ≤ 93) M M1) : ∀ a i : Nat, a = 79 → M1.2.1 a i = M.2.1 a i := fun a i z => F_n F (show ¬ (a = 77 ∧ (i = 2 ∨ i = 29) ∨ 90 ≤ a ∧ a ≤ 93) by omega) rfl
theorem tg_618 {M M1 : mm_M} (F : FR (fun a i : Nat => 6 ≤ a ∧ a ≤ 10) M M1) : ∀ a i : Nat, a = 79 → M1.2.1 a i = M.2.1 a i := fun a i z => F_n F (show ¬ (6 ≤ a ∧ a ≤ 10) by omega) rfl
theorem tg_619 {M M1 : mm_M} (F : FR (fun a i : Nat => a = 77 ∧ (i = 2 ∨ i = 29) ∨ 90 ≤ a ∧ a ≤ 93) M M1) : ∀ a i : Nat, 88 ≤ a ∧ a ≤ 89 → M1.2.1 a i = M.2.1 a i := fun a i z => F_n F (show ¬ (a = 77 ∧ (i = 2 ∨ i = 29) ∨ 90 ≤ a ∧ a ≤ 93) by omega) rfl
theorem tg_620 {M M1 : mm_M} (F : FR (fun a i : Nat => 6 ≤ a ∧ a ≤ 10) M M1) : ∀ a i : Nat, 88 ≤ a ∧ a ≤ 89 → M1.2.1 a i = M.2.1 a i := fun a i z => F_n F (show ¬ (6 ≤ a ∧ a ≤ 10) by omega) rfl
theorem tg_621 : ∀ a i : Nat, (49 ≤ a ∧ a ≤ 66 ∨ a = 77 ∧ 11 ≤ i ∧ i ≤ 13 ∨ 80 ≤ a ∧ a ≤ 87 ∨ 6 ≤ a ∧ a ≤ 10 ∨ 90 ≤ a ∧ a ≤ 93 ∨ a = 0 ∧ i = 12) → ¬ (a = 77 ∧ (i = 1 ∨ i = 2) ∨ a = 78) := fun a i z => by omega
theorem tg_622 : ∀ a i : Nat, (49 ≤ a ∧ a ≤ 66 ∨ a = 77 ∧ 11 ≤ i ∧ i ≤ 13 ∨ 80 ≤ a ∧ a ≤ 87 ∨ 6 ≤ a ∧ a ≤ 10 ∨ 90 ≤ a ∧ a ≤ 93 ∨ a = 0 ∧ i = 12) → ¬ (a = 1 ∧ i = 1 ∨ a = 2) := fun a i z => by omega
theorem tg_623 : ∀ a i : Nat, (49 ≤ a ∧ a ≤ 66 ∨ a = 77 ∧ 11 ≤ i ∧ i ≤ 13 ∨ 80 ≤ a ∧ a ≤ 87 ∨ 6 ≤ a ∧ a ≤ 10 ∨ 90 ≤ a ∧ a ≤ 93 ∨ a = 0 ∧ i = 12) → ¬ (a = 77 ∧ (1 ≤ i ∧ i ≤ 2 ∨ 4 ≤ i ∧ i ≤ 10 ∨ 42 ≤ i ∧ i ≤ 44 ∨ i = 52) ∨ 94 ≤ a ∧ a ≤ 111) := fun a i z => by omega
theorem tg_624 : ∀ a i : Nat, (49 ≤ a ∧ a ≤ 66 ∨ a = 77 ∧ 11 ≤ i ∧ i ≤ 13 ∨ 80 ≤ a ∧ a ≤ 87 ∨ 6 ≤ a ∧ a ≤ 10 ∨ 90 ≤ a ∧ a ≤ 93 ∨ a = 0 ∧ i = 12) → ¬ (a = 1 ∨ 3 ≤ a ∧ a ≤ 5 ∨ 11 ≤ a ∧ a ≤ 16 ∨ 18 ≤ a ∧ a ≤ 48) := fun a i z => by omega
theorem tg_625 : ∀ a i : Nat, (49 ≤ a ∧ a ≤ 66 ∨ a = 77 ∧ 11 ≤ i ∧ i ≤ 13 ∨ 80 ≤ a ∧ a ≤ 87 ∨ 6 ≤ a ∧ a ≤ 10 ∨ 90 ≤ a ∧ a ≤ 93 ∨ a = 0 ∧ i = 12) → ¬ (a = 77 ∧ (1 ≤ i ∧ i ≤ 2 ∨ 4 ≤ i ∧ i ≤ 10 ∨ 57 ≤ i ∧ i ≤ 59 ∨ 65 ≤ i ∧ i ≤ 69) ∨ 112 ≤ a ∧ a ≤ 116) := fun a i z => by omega
theorem tg_626 : ∀ a i : Nat, (49 ≤ a ∧ a ≤ 66 ∨ a = 77 ∧ 11 ≤ i ∧ i ≤ 13 ∨ 80 ≤ a ∧ a ≤ 87 ∨ 6 ≤ a ∧ a ≤ 10 ∨ 90 ≤ a ∧ a ≤ 93 ∨ a = 0 ∧ i = 12) → ¬ (a = 77 ∧ i = 2) := fun a i z => by omega
theorem tg_627 : ∀ a i : Nat, (49 ≤ a ∧ a ≤ 66 ∨ a = 77 ∧ 11 ≤ i ∧ i ≤ 13 ∨ 80 ≤ a ∧ a ≤ 87 ∨ 6 ≤ a ∧ a ≤ 10 ∨ 90 ≤ a ∧ a ≤ 93 ∨ a = 0 ∧ i = 12) → ¬ (a < 0) := fun a i z => by omega
theorem tg_628 : ∀ a i : Nat, (49 ≤ a ∧ a ≤ 66 ∨ a = 77 ∧ 11 ≤ i ∧ i ≤ 13 ∨ 80 ≤ a ∧ a ≤ 87 ∨ 6 ≤ a ∧ a ≤ 10 ∨ 90 ≤ a ∧ a ≤ 93 ∨ a = 0 ∧ i = 12) → ¬ (a = 77 ∧ i = 2 ∨ 94 ≤ a ∧ a ≤ 98) := fun a i z => by omega
theorem tg_629 : ∀ a i : Nat, (49 ≤ a ∧ a ≤ 66 ∨ a = 77 ∧ 11 ≤ i ∧ i ≤ 13 ∨ 80 ≤ a ∧ a ≤ 87 ∨ 6 ≤ a ∧ a ≤ 10 ∨ 90 ≤ a ∧ a ≤ 93 ∨ a = 0 ∧ i = 12) → ¬ (11 ≤ a ∧ a ≤ 16) := fun a i z => by omega
theorem tg_630 : ∀ a i : Nat, (49 ≤ a ∧ a ≤ 66 ∨ a = 77 ∧ 11 ≤ i ∧ i ≤ 13 ∨ 80 ≤ a ∧ a ≤ 87 ∨ 6 ≤ a ∧ a ≤ 10 ∨ 90 ≤ a ∧ a ≤ 93 ∨ a = 0 ∧ i = 12) → ¬ (a = 77 ∧ (i = 2 ∨ i = 28) ∨ a = 99 ∨ a = 100) := fun a i z => by omega
set_option maxRecDepth 4000 in
set_option maxHeartbeats 0 in
theorem LW_0 {X : mm_X} {d L : Nat} {M : mm_M} {Q : Option Value → mm_M → Prop} {i : Int32} {u5 u6 : Value} (hX : g_X X) (hW : g_W X) (hW2 : g_W2 X) (hL : (X 0).1 = L) (h3 : L ≤ 3072) (hd : 40 ≤ d) (hi : 0 ≤ i.toInt) (hi2 : i.toInt + 6 ≤ (L : Int)) (H : LI10 M) (h : ∀ (M1 : mm_M) (v5 v6 : Value), LI10 M1 → M1.1.2.1 ≤ M.1.2.1 + 1 → M1.1.2.2.1 ≤ M.1.2.2.1 + 6 → mm_T X d 0 1313 [.ref mm_ext, .ref 0, .ref 77, .ref 125, .int i, v5, v6] [] M1 Q) : mm_T X d 0 176 [.ref mm_ext, .ref 0, .ref 77, .ref 125, .int i, u5, u6] [] M Q := by
  obtain ⟨⟨⟨⟨⟨⟨⟨⟨⟨hG, ⟨jPI, jNI, jQI, jPQE⟩, ⟨jFA, jWC, jNJ, jPS, jKQ⟩, jJ, jE⟩, jTP, jW9⟩, jNE, jCC⟩, -⟩, jOV⟩, jW8⟩, jNN⟩, jAN⟩, jG8, jPKA⟩ := H
  have b_1 := g_b hG (a := 77) (i := 7) (lo := 0) (hi := 500) rfl rfl
  have b_2 := g_b hG (a := 77) (i := 6) (lo := 0) (hi := 500) rfl rfl
  have b_3 := g_b hG (a := 1) (i := 1) (lo := 0) (hi := 500) rfl rfl
  have b_4 := g_b hG (a := 77) (i := 1) (lo := 0) (hi := 500) rfl rfl
  have b_5 := g_b hG (a := 0) (i := 12) (lo := 0) (hi := 30) rfl rfl
  have b_6 := g_b hG (a := 77) (i := 28) (lo := 0) (hi := 30) rfl rfl
  have b_7 := g_b hG (a := 6) (i := 0) (lo := 0) (hi := 150) rfl rfl
  have b_8 := g_b hG (a := 77) (i := 29) (lo := 0) (hi := 150) rfl rfl
  refine to_an (pc := 176) rw_0_176 rfl (to_an (pc := 177) rw_0_177 rfl (to_i (pc := 178) rw_0_178 rfl (to_c (pc := 180) rw_0_180 (x := (1 : Int32)) rfl rfl (s_add (pc := 181) rw_0_181 (A := i.toInt) (B := 1) rfl rfl (by omega) (fun v9 e10 => s_x0 (pc := 182) rw_0_182 hL (A := v9.toInt) rfl (by omega) (by omega) (fun v11 e12 => to_an (pc := 183) rw_0_183 rfl (to_i (pc := 184) rw_0_184 rfl (to_c (pc := 186) rw_0_186 (x := (2 : Int32)) rfl rfl (s_add (pc := 187) rw_0_187 (A := i.toInt) (B := 2) rfl rfl (by omega) (fun v13 e14 => s_x0 (pc := 188) rw_0_188 hL (A := v13.toInt) rfl (by omega) (by omega) (fun v15 e16 => to_an (pc := 189) rw_0_189 rfl ?_)))))))))))
  refine to_i (pc := 190) rw_0_190 rfl (to_c (pc := 192) rw_0_192 (x := (3 : Int32)) rfl rfl (s_add (pc := 193) rw_0_193 (A := i.toInt) (B := 3) rfl rfl (by omega) (fun v17 e18 => s_x0 (pc := 194) rw_0_194 hL (A := v17.toInt) rfl (by omega) (by omega) (fun v19 e20 => to_an (pc := 195) rw_0_195 rfl (to_i (pc := 196) rw_0_196 rfl (to_c (pc := 198) rw_0_198 (x := (4 : Int32)) rfl rfl (s_add (pc := 199) rw_0_199 (A := i.toInt) (B := 4) rfl rfl (by omega) (fun v21 e22 => s_x0 (pc := 200) rw_0_200 hL (A := v21.toInt) rfl (by omega) (by omega) (fun v23 e24 => to_an (pc := 201) rw_0_201 rfl (to_i (pc := 202) rw_0_202 rfl (to_c (pc := 204) rw_0_204 (x := (5 : Int32)) rfl rfl ?_)))))))))))
  refine s_add (pc := 205) rw_0_205 (A := i.toInt) (B := 5) rfl rfl (by omega) (fun v25 e26 => s_x0 (pc := 206) rw_0_206 hL (A := v25.toInt) rfl (by omega) (by omega) (fun v27 e28 => s_v (pc := 207) rw_0_207 (dp0 hd (by decide)) (ls0 := [.ref 0, .int v11, .int v15, .int v19, .int v23, .int v27]) rfl (Nat.le_of_ble_eq_true rfl) (Nat.le_of_ble_eq_true rfl) rfl (to_rc rfl rfl rfl (g_o hG rfl)) rfl (E_110 hX (dp1 hd (by decide)) hG (a := v11) (b := v15) (c := v19) (x := v23) (e := v27) (fun r29 M35 hG31 F30 p_32 p_33 p_34 => ?_))))
  have n_36 : M35.1.2.1 = M.1.2.1 ∧ M35.1.2.2.1 = M.1.2.2.1 := by rw [F30.1]; exact ⟨rfl, rfl⟩
  have b_38 := g_b hG31 (a := 1) (i := 1) (lo := 0) (hi := 500) rfl rfl
  refine to_popi (pc := 210) rw_0_210 (to_an (pc := 211) rw_0_211 rfl (to_an (pc := 212) rw_0_212 rfl (to_i (pc := 213) rw_0_213 rfl (to_c (pc := 215) rw_0_215 (x := (1 : Int32)) rfl rfl (s_addk (pc := 216) rw_0_216 (A := i.toInt) (B := 1) rfl rfl (by omega) (v := v9) e10 (s_x0k (pc := 217) rw_0_217 hL (A := v9.toInt) rfl (by omega) (by omega) (v := v11) e12 (to_an (pc := 218) rw_0_218 rfl (to_i (pc := 219) rw_0_219 rfl (to_c (pc := 221) rw_0_221 (x := (2 : Int32)) rfl rfl (s_addk (pc := 222) rw_0_222 (A := i.toInt) (B := 2) rfl rfl (by omega) (v := v13) e14 (s_x0k (pc := 223) rw_0_223 hL (A := v13.toInt) rfl (by omega) (by omega) (v := v15) e16 ?_)))))))))))
  refine to_an (pc := 224) rw_0_224 rfl (to_i (pc := 225) rw_0_225 rfl (to_c (pc := 227) rw_0_227 (x := (3 : Int32)) rfl rfl (s_addk (pc := 228) rw_0_228 (A := i.toInt) (B := 3) rfl rfl (by omega) (v := v17) e18 (s_x0k (pc := 229) rw_0_229 hL (A := v17.toInt) rfl (by omega) (by omega) (v := v19) e20 (to_an (pc := 230) rw_0_230 rfl (to_i (pc := 231) rw_0_231 rfl (to_c (pc := 233) rw_0_233 (x := (4 : Int32)) rfl rfl (s_addk (pc := 234) rw_0_234 (A := i.toInt) (B := 4) rfl rfl (by omega) (v := v21) e22 (s_x0k (pc := 235) rw_0_235 hL (A := v21.toInt) rfl (by omega) (by omega) (v := v23) e24 (to_an (pc := 236) rw_0_236 rfl (to_i (pc := 237) rw_0_237 rfl ?_)))))))))))
  refine to_c (pc := 239) rw_0_239 (x := (5 : Int32)) rfl rfl (s_addk (pc := 240) rw_0_240 (A := i.toInt) (B := 5) rfl rfl (by omega) (v := v25) e26 (s_x0k (pc := 241) rw_0_241 hL (A := v25.toInt) rfl (by omega) (by omega) (v := v27) e28 (s_v (pc := 242) rw_0_242 (dp0 hd (by decide)) (ls0 := [.ref 77, .int v11, .int v15, .int v19, .int v23, .int v27, .null, .null]) rfl (Nat.le_of_ble_eq_true rfl) (Nat.le_of_ble_eq_true rfl) rfl (to_rc rfl rfl rfl (g_o hG31 rfl)) rfl ?_)))
  have c_49 : M35.2.1 77 1 = (M.2.1 77 1) := (F_n F30 (show ¬ (77 = 1 ∧ 1 = 1 ∨ 77 = 2) by decide) rfl)
  have t_50 : (M35.2.1 77 1).toInt = (M.2.1 77 1).toInt := congrArg Int32.toInt c_49
  refine E_148 hX (dp1 hd (by decide)) hG31 (a := v11) (b := v15) (c := v19) (x := v23) (e := v27) (fun r51 M57 hG53 F52 p_54 p_55 p_56 => ?_)
  have n_58 : M57.1.2.1 = M35.1.2.1 ∧ M57.1.2.2.1 = M35.1.2.2.1 := by rw [F52.1]; exact ⟨rfl, rfl⟩
  have b_60 := g_b hG53 (a := 77) (i := 1) (lo := 0) (hi := 500) rfl rfl
  have c_61 : M57.2.1 1 1 = (M35.2.1 1 1) := (F_n F52 (show ¬ (1 = 77 ∧ (1 = 1 ∨ 1 = 2) ∨ 1 = 78) by decide) rfl)
  have t_62 : (M57.2.1 1 1).toInt = (M35.2.1 1 1).toInt := congrArg Int32.toInt c_61
  have z_63 := TP_d jTP (by omega) (by omega) p_34 (by omega) (fun k => (F_n F30 (show ¬ (78 = 1 ∧ k = 1 ∨ 78 = 2) by omega) rfl)) (F_n F30 (show ¬ (77 = 1 ∧ 1 = 1 ∨ 77 = 2) by decide) rfl) p_56 (fun k => (F_n F52 (show ¬ (2 = 77 ∧ (k = 1 ∨ k = 2) ∨ 2 = 78) by omega) rfl))
  refine to_popi (pc := 245) rw_0_245 (to_go (pc := 246) rw_0_246 ?_)
  have c_64 : M57.2.1 77 7 = (M.2.1 77 7) := (F_n F52 (show ¬ (77 = 77 ∧ (7 = 1 ∨ 7 = 2) ∨ 77 = 78) by decide) (F_n F30 (show ¬ (77 = 1 ∧ 7 = 1 ∨ 77 = 2) by decide) rfl))
  have t_65 : (M57.2.1 77 7).toInt = (M.2.1 77 7).toInt := congrArg Int32.toInt c_64
  have c_66 : M57.2.1 77 6 = (M.2.1 77 6) := (F_n F52 (show ¬ (77 = 77 ∧ (6 = 1 ∨ 6 = 2) ∨ 77 = 78) by decide) (F_n F30 (show ¬ (77 = 1 ∧ 6 = 1 ∨ 77 = 2) by decide) rfl))
  have t_67 : (M57.2.1 77 6).toInt = (M.2.1 77 6).toInt := congrArg Int32.toInt c_66
  have c_68 : M57.2.1 0 12 = (M.2.1 0 12) := (F_n F52 (show ¬ (0 = 77 ∧ (12 = 1 ∨ 12 = 2) ∨ 0 = 78) by decide) (F_n F30 (show ¬ (0 = 1 ∧ 12 = 1 ∨ 0 = 2) by decide) rfl))
  have t_69 : (M57.2.1 0 12).toInt = (M.2.1 0 12).toInt := congrArg Int32.toInt c_68
  have c_70 : M57.2.1 77 28 = (M.2.1 77 28) := (F_n F52 (show ¬ (77 = 77 ∧ (28 = 1 ∨ 28 = 2) ∨ 77 = 78) by decide) (F_n F30 (show ¬ (77 = 1 ∧ 28 = 1 ∨ 77 = 2) by decide) rfl))
  have t_71 : (M57.2.1 77 28).toInt = (M.2.1 77 28).toInt := congrArg Int32.toInt c_70
  have c_72 : M57.2.1 17 4 = (M.2.1 17 4) := (F_n F52 (show ¬ (17 = 77 ∧ (4 = 1 ∨ 4 = 2) ∨ 17 = 78) by decide) (F_n F30 (show ¬ (17 = 1 ∧ 4 = 1 ∨ 17 = 2) by decide) rfl))
  have t_73 : (M57.2.1 17 4).toInt = (M.2.1 17 4).toInt := congrArg Int32.toInt c_72
  have c_74 : M57.2.1 77 41 = (M.2.1 77 41) := (F_n F52 (show ¬ (77 = 77 ∧ (41 = 1 ∨ 41 = 2) ∨ 77 = 78) by decide) (F_n F30 (show ¬ (77 = 1 ∧ 41 = 1 ∨ 77 = 2) by decide) rfl))
  have t_75 : (M57.2.1 77 41).toInt = (M.2.1 77 41).toInt := congrArg Int32.toInt c_74
  have c_76 : M57.2.1 6 0 = (M.2.1 6 0) := (F_n F52 (show ¬ (6 = 77 ∧ (0 = 1 ∨ 0 = 2) ∨ 6 = 78) by decide) (F_n F30 (show ¬ (6 = 1 ∧ 0 = 1 ∨ 6 = 2) by decide) rfl))
  have t_77 : (M57.2.1 6 0).toInt = (M.2.1 6 0).toInt := congrArg Int32.toInt c_76
  have c_78 : M57.2.1 77 29 = (M.2.1 77 29) := (F_n F52 (show ¬ (77 = 77 ∧ (29 = 1 ∨ 29 = 2) ∨ 77 = 78) by decide) (F_n F30 (show ¬ (77 = 1 ∧ 29 = 1 ∨ 77 = 2) by decide) rfl))
  have t_79 : (M57.2.1 77 29).toInt = (M.2.1 77 29).toInt := congrArg Int32.toInt c_78
  have j_80 := (PI_f (tg_485 F52) (PI_f (tg_486 F30) jPI))
  have j_81 := (NI_f (tg_487 F52) (NI_f (tg_488 F30) jNI))
  have j_82 := (QI_f (tg_489 F52) (QI_f (tg_490 F30) jQI))
  have j_83 := (PQE_r F52.2.1 (PQE_r F30.2.1 jPQE))
  have j_84 := (FA_f (tg_491 F52) (FA_f (tg_492 F30) jFA))
  have j_85 := (WC_f (tg_493 F52) (WC_f (tg_494 F30) jWC))
  have j_86 := (NJ_f (tg_495 F52) (NJ_f (tg_496 F30) jNJ))
  have j_87 := (PS_f (tg_497 F52) (PS_f (tg_498 F30) jPS))
  have j_88 := (KQ_f (tg_499 F52) (KQ_f (tg_500 F30) jKQ))
  have j_89 := (W9_f (tg_501 F52) (W9_f (tg_502 F30) jW9))
  have j_90 := (AN_F F52 tg_621 (AN_F F30 tg_622 jAN))
  have j_91 := (G8_F F52 (fun a i z => show ¬ (a = 77 ∧ (i = 1 ∨ i = 2) ∨ a = 78) by omega) (G8_F F30 (fun a i z => show ¬ (a = 1 ∧ i = 1 ∨ a = 2) by omega) jG8))
  have j_92 := (PKA_F F52 (fun a i z => show ¬ (a = 77 ∧ (i = 1 ∨ i = 2) ∨ a = 78) by omega) (PKA_F F30 (fun a i z => show ¬ (a = 1 ∧ i = 1 ∨ a = 2) by omega) jPKA))
  have j_93 := (NE_r F52.2.1 (NE_r F30.2.1 jNE))
  have j_94 := (W8_f (tg_503 F52) (W8_f (tg_504 F30) jW8))
  exact h M57 (u5) (u6) ⟨⟨⟨⟨⟨⟨⟨⟨⟨hG53, ⟨j_80, j_81, j_82, j_83⟩, ⟨j_84, j_85, j_86, j_87, j_88⟩, by omega, by omega⟩, z_63, j_89⟩, j_93, by omega⟩, AN_a j_90⟩, by omega⟩, j_94⟩, by omega⟩, j_90⟩, j_91, j_92⟩ (by omega) (by omega)
set_option maxRecDepth 4000 in
set_option maxHeartbeats 0 in
theorem LW_1 {X : mm_X} {d L : Nat} {M : mm_M} {Q : Option Value → mm_M → Prop} {i : Int32} {u5 u6 : Value} (hX : g_X X) (hW : g_W X) (hW2 : g_W2 X) (hL : (X 0).1 = L) (h3 : L ≤ 3072) (hd : 40 ≤ d) (hi : 0 ≤ i.toInt) (hi2 : i.toInt + 6 ≤ (L : Int)) (H : LI10 M) (h : ∀ (M1 : mm_M) (v5 v6 : Value), LI10 M1 → M1.1.2.1 ≤ M.1.2.1 + 1 → M1.1.2.2.1 ≤ M.1.2.2.1 + 6 → mm_T X d 0 1313 [.ref mm_ext, .ref 0, .ref 77, .ref 125, .int i, v5, v6] [] M1 Q) : mm_T X d 0 249 [.ref mm_ext, .ref 0, .ref 77, .ref 125, .int i, u5, u6] [] M Q := by
  obtain ⟨⟨⟨⟨⟨⟨⟨⟨⟨hG, ⟨jPI, jNI, jQI, jPQE⟩, ⟨jFA, jWC, jNJ, jPS, jKQ⟩, jJ, jE⟩, jTP, jW9⟩, jNE, jCC⟩, -⟩, jOV⟩, jW8⟩, jNN⟩, jAN⟩, jG8, jPKA⟩ := H
  have b_1 := g_b hG (a := 77) (i := 7) (lo := 0) (hi := 500) rfl rfl
  have b_2 := g_b hG (a := 77) (i := 6) (lo := 0) (hi := 500) rfl rfl
  have b_3 := g_b hG (a := 1) (i := 1) (lo := 0) (hi := 500) rfl rfl
  have b_4 := g_b hG (a := 77) (i := 1) (lo := 0) (hi := 500) rfl rfl
  have b_5 := g_b hG (a := 0) (i := 12) (lo := 0) (hi := 30) rfl rfl
  have b_6 := g_b hG (a := 77) (i := 28) (lo := 0) (hi := 30) rfl rfl
  have b_7 := g_b hG (a := 6) (i := 0) (lo := 0) (hi := 150) rfl rfl
  have b_8 := g_b hG (a := 77) (i := 29) (lo := 0) (hi := 150) rfl rfl
  refine to_an (pc := 249) rw_0_249 rfl (to_an (pc := 250) rw_0_250 rfl (to_i (pc := 251) rw_0_251 rfl (to_c (pc := 253) rw_0_253 (x := (1 : Int32)) rfl rfl (s_add (pc := 254) rw_0_254 (A := i.toInt) (B := 1) rfl rfl (by omega) (fun v9 e10 => s_x0 (pc := 255) rw_0_255 hL (A := v9.toInt) rfl (by omega) (by omega) (fun v11 e12 => s_v (pc := 256) rw_0_256 (dp0 hd (by decide)) (ls0 := [.ref 0, .int v11, .null]) rfl (Nat.le_of_ble_eq_true rfl) (Nat.le_of_ble_eq_true rfl) rfl (to_rc rfl rfl rfl (g_o hG rfl)) rfl ?_))))))
  obtain ⟨pz13, pzz13, qz13, qzz13, hpz13, hpzz13, hqz13, hqzz13, hpqz13⟩ := id jPQE
  obtain ⟨P9, pk1, pk2, pk3⟩ := id jPKA
  obtain ⟨t, nn, hn1, hT1, hR1⟩ := TP_X (n := v11.toInt) jTP
  refine D_111 hX (dp1 hd (by decide)) hG hpz13 hpzz13 hqz13 hqzz13 hpqz13 jPI jNI jQI (by omega) hT1 hW (NE_p hpqz13 jNE) (n := v11) (t := t) (nn := nn) (p := pz13) (pz := pzz13) (q := qz13) (qz := qzz13) (fun r14 M33 hG16 F15 p_17 p_18 p_19 p_20 p_21 p_22 p_23 p_24 p_25 p_26 p_27 p_28 p_29 p_30 p_31 p_32 => ?_)
  have n_34 : M33.1.2.1 = M.1.2.1 ∧ M33.1.2.2.1 = M.1.2.2.1 := by rw [F15.1]; exact ⟨rfl, rfl⟩
  have b_36 := g_b hG16 (a := 1) (i := 1) (lo := 0) (hi := 500) rfl rfl
  have b_37 := g_b hG16 (a := 0) (i := 12) (lo := 0) (hi := 30) rfl rfl
  have b_38 := g_b hG16 (a := 6) (i := 0) (lo := 0) (hi := 150) rfl rfl
  have z_39 := TP_s jTP (by omega) (fun a i z => (Fx_n F15 (show ¬ (a ≤ 76 ∧ ¬ a = 2) by omega) rfl))
  refine to_popi (pc := 259) rw_0_259 (to_an (pc := 260) rw_0_260 rfl (to_an (pc := 261) rw_0_261 rfl (to_i (pc := 262) rw_0_262 rfl (to_c (pc := 264) rw_0_264 (x := (1 : Int32)) rfl rfl (s_addk (pc := 265) rw_0_265 (A := i.toInt) (B := 1) rfl rfl (by omega) (v := v9) e10 (s_x0k (pc := 266) rw_0_266 hL (A := v9.toInt) rfl (by omega) (by omega) (v := v11) e12 (s_v (pc := 267) rw_0_267 (dp0 hd (by decide)) (ls0 := [.ref 77, .int v11, .null]) rfl (Nat.le_of_ble_eq_true rfl) (Nat.le_of_ble_eq_true rfl) rfl (to_rc rfl rfl rfl (g_o hG16 rfl)) rfl ?_)))))))
  have c_42 : M33.2.1 77 1 = (M.2.1 77 1) := (Fx_n F15 (show ¬ (77 ≤ 76 ∧ ¬ 77 = 2) by decide) rfl)
  have t_43 : (M33.2.1 77 1).toInt = (M.2.1 77 1).toInt := congrArg Int32.toInt c_42
  have c_44 : M33.2.1 77 28 = (M.2.1 77 28) := (Fx_n F15 (show ¬ (77 ≤ 76 ∧ ¬ 77 = 2) by decide) rfl)
  have t_45 : (M33.2.1 77 28).toInt = (M.2.1 77 28).toInt := congrArg Int32.toInt c_44
  have c_46 : M33.2.1 77 29 = (M.2.1 77 29) := (Fx_n F15 (show ¬ (77 ≤ 76 ∧ ¬ 77 = 2) by decide) rfl)
  have t_47 : (M33.2.1 77 29).toInt = (M.2.1 77 29).toInt := congrArg Int32.toInt c_46
  have c_48 : M33.2.1 77 41 = (M.2.1 77 41) := (Fx_n F15 (show ¬ (77 ≤ 76 ∧ ¬ 77 = 2) by decide) rfl)
  have t_49 : (M33.2.1 77 41).toInt = (M.2.1 77 41).toInt := congrArg Int32.toInt c_48
  have c_50 : M33.2.1 77 7 = (M.2.1 77 7) := (Fx_n F15 (show ¬ (77 ≤ 76 ∧ ¬ 77 = 2) by decide) rfl)
  have t_51 : (M33.2.1 77 7).toInt = (M.2.1 77 7).toInt := congrArg Int32.toInt c_50
  have c_52 : M33.2.1 77 6 = (M.2.1 77 6) := (Fx_n F15 (show ¬ (77 ≤ 76 ∧ ¬ 77 = 2) by decide) rfl)
  have t_53 : (M33.2.1 77 6).toInt = (M.2.1 77 6).toInt := congrArg Int32.toInt c_52
  have j_54 := (FA_f (tg_505 F15) jFA)
  have j_55 := (WC_f (tg_506 F15) jWC)
  have j_56 := (NJ_f (tg_507 F15) jNJ)
  have j_57 := (PS_f (tg_508 F15) jPS)
  have j_58 := (KQ_f (tg_509 F15) jKQ)
  have j_59 := (TR_f (tg_510 F15) hR1)
  have j_60 := (W9_f (tg_511 F15) jW9)
  refine D_173 hX (dp1 hd (by decide)) hG16 (by omega) j_54 j_55 j_56 j_57 j_58 (by omega) j_59 j_60 (n := v11) (t := t) (nn := nn) (fun r61 M80 hG63 F62 p_64 p_65 p_66 p_67 p_68 p_69 p_70 p_71 p_72 p_73 p_74 p_75 p_76 p_77 p_78 p_79 => ?_)
  have n_81 : M80.1.2.1 = M33.1.2.1 ∧ M80.1.2.2.1 = M33.1.2.2.1 := by rw [F62.1]; exact ⟨rfl, rfl⟩
  have b_83 := g_b hG63 (a := 77) (i := 7) (lo := 0) (hi := 500) rfl rfl
  have b_84 := g_b hG63 (a := 77) (i := 6) (lo := 0) (hi := 500) rfl rfl
  have b_85 := g_b hG63 (a := 77) (i := 1) (lo := 0) (hi := 500) rfl rfl
  have b_86 := g_b hG63 (a := 77) (i := 28) (lo := 0) (hi := 30) rfl rfl
  have b_87 := g_b hG63 (a := 77) (i := 29) (lo := 0) (hi := 150) rfl rfl
  have c_88 : M80.2.1 0 12 = (M33.2.1 0 12) := (F_n F62 (show ¬ (0 = 77 ∨ 79 < 0 ∧ 0 ≤ 87 ∨ 0 = 100) by decide) rfl)
  have t_89 : (M80.2.1 0 12).toInt = (M33.2.1 0 12).toInt := congrArg Int32.toInt c_88
  have z_90 := PAN_q (h1 := (M.2.1 1 1).toInt) (h2 := (M33.2.1 77 1).toInt) (by omega) p_23 p_72 p_24 p_73
  have z_91 : PKA M80 := PK_pl (r := r14.toInt) (fun z => (PKc_f (fun a i z => (F_n F62 (show ¬ (a = 77 ∨ 79 < a ∧ a ≤ 87 ∨ a = 100) by omega) rfl)) (p_32.1 P9 (by omega) pk1))) (fun z => (PKc_f (fun a i z => (F_n F62 (show ¬ (a = 77 ∨ 79 < a ∧ a ≤ 87 ∨ a = 100) by omega) rfl)) (p_32.2 (by omega)))) (fun z => p_79.1 P9 (by omega) (PKr_f (fun a i z => (Fx_n F15 (show ¬ (a ≤ 76 ∧ ¬ a = 2) by omega) rfl)) pk2)) (fun z => p_79.2 (by omega)) pk3 (fun z => by omega) (fun z => by omega)
  have z_92 := G8_p jG8 hpqz13 p_28 p_29 F62 (fun a i z => show ¬ (a = 77 ∨ 79 < a ∧ a ≤ 87 ∨ a = 100) by omega) p_31 (fun z => by omega)
  have z_93 := AN_p jAN hpqz13 z_90 p_28 p_29 F15 (fun a i z => show ¬ (a ≤ 76 ∧ ¬ a = 2) by omega) F62 (fun a i z => show ¬ (a = 77 ∨ 79 < a ∧ a ≤ 87 ∨ a = 100) by omega) p_77 p_78 p_31 (fun z => by omega)
  refine to_popi (pc := 270) rw_0_270 (to_go (pc := 271) rw_0_271 ?_)
  have c_94 : M80.2.1 1 1 = (M33.2.1 1 1) := (F_n F62 (show ¬ (1 = 77 ∨ 79 < 1 ∧ 1 ≤ 87 ∨ 1 = 100) by decide) rfl)
  have t_95 : (M80.2.1 1 1).toInt = (M33.2.1 1 1).toInt := congrArg Int32.toInt c_94
  have c_96 : M80.2.1 17 4 = (M33.2.1 17 4) := (F_n F62 (show ¬ (17 = 77 ∨ 79 < 17 ∧ 17 ≤ 87 ∨ 17 = 100) by decide) rfl)
  have t_97 : (M80.2.1 17 4).toInt = (M33.2.1 17 4).toInt := congrArg Int32.toInt c_96
  have c_98 : M80.2.1 6 0 = (M33.2.1 6 0) := (F_n F62 (show ¬ (6 = 77 ∨ 79 < 6 ∧ 6 ≤ 87 ∨ 6 = 100) by decide) rfl)
  have t_99 : (M80.2.1 6 0).toInt = (M33.2.1 6 0).toInt := congrArg Int32.toInt c_98
  have j_100 := (PI_f (tg_512 F62) p_19)
  have j_101 := (NI_f (tg_513 F62) p_21)
  have j_102 := (QI_f (tg_514 F62) p_22)
  have j_103 := (PQE_r F62.2.1 (PQE_pp hpz13 hpzz13 hqz13 hqzz13 p_20))
  have j_104 := (TP_f (tg_515 F62) z_39)
  have j_105 := (W9_f (tg_516 F62) j_60)
  have j_106 := (NE_r F62.2.1 p_30)
  have j_107 := (W8_f (tg_517 F62) (W8_f (tg_518 F15) jW8))
  exact h M80 (u5) (u6) ⟨⟨⟨⟨⟨⟨⟨⟨⟨hG63, ⟨j_100, j_101, j_102, j_103⟩, ⟨p_65, p_66, p_67, p_68, p_69⟩, by omega, by omega⟩, j_104, j_105⟩, j_106, by omega⟩, AN_a z_93⟩, by omega⟩, j_107⟩, by omega⟩, z_93⟩, z_92, z_91⟩ (by omega) (by omega)
set_option maxRecDepth 4000 in
set_option maxHeartbeats 0 in
theorem LW_2 {X : mm_X} {d L : Nat} {M : mm_M} {Q : Option Value → mm_M → Prop} {i : Int32} {u5 u6 : Value} (hX : g_X X) (hW : g_W X) (hW2 : g_W2 X) (hL : (X 0).1 = L) (h3 : L ≤ 3072) (hd : 40 ≤ d) (hi : 0 ≤ i.toInt) (hi2 : i.toInt + 6 ≤ (L : Int)) (H : LI10 M) (h : ∀ (M1 : mm_M) (v5 v6 : Value), LI10 M1 → M1.1.2.1 ≤ M.1.2.1 + 1 → M1.1.2.2.1 ≤ M.1.2.2.1 + 6 → mm_T X d 0 1313 [.ref mm_ext, .ref 0, .ref 77, .ref 125, .int i, v5, v6] [] M1 Q) : mm_T X d 0 274 [.ref mm_ext, .ref 0, .ref 77, .ref 125, .int i, u5, u6] [] M Q := by
  obtain ⟨⟨⟨⟨⟨⟨⟨⟨⟨hG, ⟨jPI, jNI, jQI, jPQE⟩, ⟨jFA, jWC, jNJ, jPS, jKQ⟩, jJ, jE⟩, jTP, jW9⟩, jNE, jCC⟩, -⟩, jOV⟩, jW8⟩, jNN⟩, jAN⟩, jG8, jPKA⟩ := H
  have b_1 := g_b hG (a := 77) (i := 7) (lo := 0) (hi := 500) rfl rfl
  have b_2 := g_b hG (a := 77) (i := 6) (lo := 0) (hi := 500) rfl rfl
  have b_3 := g_b hG (a := 1) (i := 1) (lo := 0) (hi := 500) rfl rfl
  have b_4 := g_b hG (a := 77) (i := 1) (lo := 0) (hi := 500) rfl rfl
  have b_5 := g_b hG (a := 0) (i := 12) (lo := 0) (hi := 30) rfl rfl
  have b_6 := g_b hG (a := 77) (i := 28) (lo := 0) (hi := 30) rfl rfl
  have b_7 := g_b hG (a := 6) (i := 0) (lo := 0) (hi := 150) rfl rfl
  have b_8 := g_b hG (a := 77) (i := 29) (lo := 0) (hi := 150) rfl rfl
  refine to_an (pc := 274) rw_0_274 rfl (to_an (pc := 275) rw_0_275 rfl (to_i (pc := 276) rw_0_276 rfl (to_c (pc := 278) rw_0_278 (x := (1 : Int32)) rfl rfl (s_add (pc := 279) rw_0_279 (A := i.toInt) (B := 1) rfl rfl (by omega) (fun v9 e10 => s_x0 (pc := 280) rw_0_280 hL (A := v9.toInt) rfl (by omega) (by omega) (fun v11 e12 => s_v (pc := 281) rw_0_281 (dp0 hd (by decide)) (ls0 := [.ref 0, .int v11]) rfl (Nat.le_of_ble_eq_true rfl) (Nat.le_of_ble_eq_true rfl) rfl (to_rc rfl rfl rfl (g_o hG rfl)) rfl ?_))))))
  obtain ⟨pz13, pzz13, qz13, qzz13, hpz13, hpzz13, hqz13, hqzz13, hpqz13⟩ := id jPQE
  obtain ⟨sg, NN, nz, ca, hs1, hs2, hn1, hn2, hn3, hn4, hn5⟩ := AN_u jAN hpqz13
  have z_14 := G8_u jG8 hpqz13 hs1 hn1 hn4
  obtain ⟨P9, pk1, pk2, pk3⟩ := PKA_u jPKA hn5
  obtain ⟨n9, hn9⟩ : ∃ z : Int, z = ca := ⟨_, rfl⟩
  obtain ⟨ov, hov⟩ : ∃ o : Int32, M.2.1 17 4 = o := ⟨_, rfl⟩
  have z_15 := congrArg Int32.toInt hov
  obtain ⟨t, nn, hn1, hT1, hR1⟩ := TP_X (n := v11.toInt) jTP
  refine D_112 hX (dp1 hd (by decide)) hG hpz13 hpzz13 hqz13 hqzz13 hpqz13 jNI jPI jQI (by omega) hT1 hW hs1.1 hs1.2 hW2 hn1 hn3 (by omega) (by omega) (by omega) hov pk1 pk3 z_14 (n := v11) (t := t) (nn := nn) (sg := sg) (NN := NN) (nz := nz) (ca := ca) (P9 := P9) (ov := ov) (p := pz13) (pz := pzz13) (q := qz13) (qz := qzz13) (fun r16 M28 hG18 F17 p_19 p_20 p_21 p_22 p_23 p_24 p_25 p_26 p_27 => ?_)
  have n_29 : M28.1.2.1 = M.1.2.1 ∧ M28.1.2.2.1 = M.1.2.2.1 := by rw [F17.1]; exact ⟨rfl, rfl⟩
  have b_31 := g_b hG18 (a := 1) (i := 1) (lo := 0) (hi := 500) rfl rfl
  have z_32 := TP_s jTP (by omega) (fun a i z => (F_n F17 (show ¬ (a = 1 ∨ 3 ≤ a ∧ a ≤ 5 ∨ 11 ≤ a ∧ a ≤ 16 ∨ 18 ≤ a ∧ a ≤ 48) by omega) rfl))
  refine to_popi (pc := 284) rw_0_284 (to_an (pc := 285) rw_0_285 rfl (to_an (pc := 286) rw_0_286 rfl (to_i (pc := 287) rw_0_287 rfl (to_c (pc := 289) rw_0_289 (x := (1 : Int32)) rfl rfl (s_addk (pc := 290) rw_0_290 (A := i.toInt) (B := 1) rfl rfl (by omega) (v := v9) e10 (s_x0k (pc := 291) rw_0_291 hL (A := v9.toInt) rfl (by omega) (by omega) (v := v11) e12 (s_v (pc := 292) rw_0_292 (dp0 hd (by decide)) (ls0 := [.ref 77, .int v11]) rfl (Nat.le_of_ble_eq_true rfl) (Nat.le_of_ble_eq_true rfl) rfl (to_rc rfl rfl rfl (g_o hG18 rfl)) rfl ?_)))))))
  have c_35 : M28.2.1 77 1 = (M.2.1 77 1) := (F_n F17 (show ¬ (77 = 1 ∨ 3 ≤ 77 ∧ 77 ≤ 5 ∨ 11 ≤ 77 ∧ 77 ≤ 16 ∨ 18 ≤ 77 ∧ 77 ≤ 48) by decide) rfl)
  have t_36 : (M28.2.1 77 1).toInt = (M.2.1 77 1).toInt := congrArg Int32.toInt c_35
  have c_37 : M28.2.1 77 28 = (M.2.1 77 28) := (F_n F17 (show ¬ (77 = 1 ∨ 3 ≤ 77 ∧ 77 ≤ 5 ∨ 11 ≤ 77 ∧ 77 ≤ 16 ∨ 18 ≤ 77 ∧ 77 ≤ 48) by decide) rfl)
  have t_38 : (M28.2.1 77 28).toInt = (M.2.1 77 28).toInt := congrArg Int32.toInt c_37
  have c_39 : M28.2.1 77 41 = (M.2.1 77 41) := (F_n F17 (show ¬ (77 = 1 ∨ 3 ≤ 77 ∧ 77 ≤ 5 ∨ 11 ≤ 77 ∧ 77 ≤ 16 ∨ 18 ≤ 77 ∧ 77 ≤ 48) by decide) rfl)
  have t_40 : (M28.2.1 77 41).toInt = (M.2.1 77 41).toInt := congrArg Int32.toInt c_39
  have c_41 : M28.2.1 77 7 = (M.2.1 77 7) := (F_n F17 (show ¬ (77 = 1 ∨ 3 ≤ 77 ∧ 77 ≤ 5 ∨ 11 ≤ 77 ∧ 77 ≤ 16 ∨ 18 ≤ 77 ∧ 77 ≤ 48) by decide) rfl)
  have t_42 : (M28.2.1 77 7).toInt = (M.2.1 77 7).toInt := congrArg Int32.toInt c_41
  have c_43 : M28.2.1 77 6 = (M.2.1 77 6) := (F_n F17 (show ¬ (77 = 1 ∨ 3 ≤ 77 ∧ 77 ≤ 5 ∨ 11 ≤ 77 ∧ 77 ≤ 16 ∨ 18 ≤ 77 ∧ 77 ≤ 48) by decide) rfl)
  have t_44 : (M28.2.1 77 6).toInt = (M.2.1 77 6).toInt := congrArg Int32.toInt c_43
  have j_45 := (FA_f (tg_519 F17) jFA)
  have j_46 := (WC_f (tg_520 F17) jWC)
  have j_47 := (NJ_f (tg_521 F17) jNJ)
  have j_48 := (PS_f (tg_522 F17) jPS)
  have j_49 := (KQ_f (tg_523 F17) jKQ)
  have j_50 := (TR_f (tg_524 F17) hR1)
  have j_51 := (W9_f (tg_525 F17) jW9)
  have j_52 := (PKr_f (fun a i z => F_n F17 (show ¬ (a = 1 ∨ 3 ≤ a ∧ a ≤ 5 ∨ 11 ≤ a ∧ a ≤ 16 ∨ 18 ≤ a ∧ a ≤ 48) by omega) rfl) pk2)
  have c_53 : M28.2.1 77 29 = (M.2.1 77 29) := (F_n F17 (show ¬ (77 = 1 ∨ 3 ≤ 77 ∧ 77 ≤ 5 ∨ 11 ≤ 77 ∧ 77 ≤ 16 ∨ 18 ≤ 77 ∧ 77 ≤ 48) by decide) rfl)
  have t_54 : (M28.2.1 77 29).toInt = (M.2.1 77 29).toInt := congrArg Int32.toInt c_53
  have j_55 := (CWk_f (fun k hk9 => F_nl F17 (show ¬ (87 = 1 ∨ 3 ≤ 87 ∧ 87 ≤ 5 ∨ 11 ≤ 87 ∧ 87 ≤ 16 ∨ 18 ≤ 87 ∧ 87 ≤ 48) by decide) rfl) hs2.2)
  have j_56 := (PLk_f (tg_526 F17) hs2.1)
  have j_57 := (W8_f (tg_527 F17) jW8)
  have j_58 := (NTr_f (tg_528 F17) hn2)
  refine E_219 hX (dp1 hd (by decide)) hG18 (by omega) j_45 j_46 j_47 j_48 j_49 (by omega) j_50 j_51 (show M28.2.1 77 41 = ov from Int32.toInt_inj.mp (by omega)) j_52 pk3 z_14 hn3 (by omega) (by omega) (by omega) j_55 j_56 j_57 j_58 (n := v11) (t := t) (nn := nn) (sg := sg) (NN := NN) (nz := nz) (ca := ca) (P9 := P9) (ov := ov) (fun r59 M74 hG61 F60 p_62 p_63 p_64 p_65 p_66 p_67 p_68 p_69 p_70 p_71 p_72 p_73 => ?_)
  have n_75 : M74.1.2.1 = M28.1.2.1 ∧ M74.1.2.2.1 = M28.1.2.2.1 := by rw [F60.1]; exact ⟨rfl, rfl⟩
  have b_77 := g_b hG61 (a := 77) (i := 7) (lo := 0) (hi := 500) rfl rfl
  have b_78 := g_b hG61 (a := 77) (i := 6) (lo := 0) (hi := 500) rfl rfl
  have b_79 := g_b hG61 (a := 77) (i := 1) (lo := 0) (hi := 500) rfl rfl
  have c_80 : M74.2.1 0 12 = (M.2.1 0 12) := (F_n F60 (show ¬ (0 = 77 ∧ (1 ≤ 12 ∧ 12 ≤ 2 ∨ 4 ≤ 12 ∧ 12 ≤ 10 ∨ 42 ≤ 12 ∧ 12 ≤ 44 ∨ 12 = 52) ∨ 94 ≤ 0 ∧ 0 ≤ 111) by decide) (F_n F17 (show ¬ (0 = 1 ∨ 3 ≤ 0 ∧ 0 ≤ 5 ∨ 11 ≤ 0 ∧ 0 ≤ 16 ∨ 18 ≤ 0 ∧ 0 ≤ 48) by decide) rfl))
  have t_81 : (M74.2.1 0 12).toInt = (M.2.1 0 12).toInt := congrArg Int32.toInt c_80
  have z_82 := PW_q (h1 := (M.2.1 1 1).toInt) (h2 := (M28.2.1 77 1).toInt) (by omega) p_24 p_70 p_27 p_73 p_26 p_72 pk3
  have z_83 := z_82.1
  obtain ⟨Pw, pw1, pw2, pw3⟩ := z_82.2
  have z_84 := PKA_i (ca := ca) (by omega) (PKc_f (fun a i z => (F_n F60 (show ¬ (a = 77 ∧ (1 ≤ i ∧ i ≤ 2 ∨ 4 ≤ i ∧ i ≤ 10 ∨ 42 ≤ i ∧ i ≤ 44 ∨ i = 52) ∨ 94 ≤ a ∧ a ≤ 111) by omega) rfl)) pw1) pw2 pw3
  refine to_popi (pc := 295) rw_0_295 (to_go (pc := 296) rw_0_296 ?_)
  have c_85 : M74.2.1 1 1 = (M28.2.1 1 1) := (F_n F60 (show ¬ (1 = 77 ∧ (1 ≤ 1 ∧ 1 ≤ 2 ∨ 4 ≤ 1 ∧ 1 ≤ 10 ∨ 42 ≤ 1 ∧ 1 ≤ 44 ∨ 1 = 52) ∨ 94 ≤ 1 ∧ 1 ≤ 111) by decide) rfl)
  have t_86 : (M74.2.1 1 1).toInt = (M28.2.1 1 1).toInt := congrArg Int32.toInt c_85
  have c_87 : M74.2.1 77 28 = (M.2.1 77 28) := (F_n F60 (show ¬ (77 = 77 ∧ (1 ≤ 28 ∧ 28 ≤ 2 ∨ 4 ≤ 28 ∧ 28 ≤ 10 ∨ 42 ≤ 28 ∧ 28 ≤ 44 ∨ 28 = 52) ∨ 94 ≤ 77 ∧ 77 ≤ 111) by decide) c_37)
  have t_88 : (M74.2.1 77 28).toInt = (M.2.1 77 28).toInt := congrArg Int32.toInt c_87
  have c_89 : M74.2.1 17 4 = (M.2.1 17 4) := (F_n F60 (show ¬ (17 = 77 ∧ (1 ≤ 4 ∧ 4 ≤ 2 ∨ 4 ≤ 4 ∧ 4 ≤ 10 ∨ 42 ≤ 4 ∧ 4 ≤ 44 ∨ 4 = 52) ∨ 94 ≤ 17 ∧ 17 ≤ 111) by decide) (F_n F17 (show ¬ (17 = 1 ∨ 3 ≤ 17 ∧ 17 ≤ 5 ∨ 11 ≤ 17 ∧ 17 ≤ 16 ∨ 18 ≤ 17 ∧ 17 ≤ 48) by decide) rfl))
  have t_90 : (M74.2.1 17 4).toInt = (M.2.1 17 4).toInt := congrArg Int32.toInt c_89
  have c_91 : M74.2.1 77 41 = (M.2.1 77 41) := (F_n F60 (show ¬ (77 = 77 ∧ (1 ≤ 41 ∧ 41 ≤ 2 ∨ 4 ≤ 41 ∧ 41 ≤ 10 ∨ 42 ≤ 41 ∧ 41 ≤ 44 ∨ 41 = 52) ∨ 94 ≤ 77 ∧ 77 ≤ 111) by decide) c_39)
  have t_92 : (M74.2.1 77 41).toInt = (M.2.1 77 41).toInt := congrArg Int32.toInt c_91
  have c_93 : M74.2.1 6 0 = (M.2.1 6 0) := (F_n F60 (show ¬ (6 = 77 ∧ (1 ≤ 0 ∧ 0 ≤ 2 ∨ 4 ≤ 0 ∧ 0 ≤ 10 ∨ 42 ≤ 0 ∧ 0 ≤ 44 ∨ 0 = 52) ∨ 94 ≤ 6 ∧ 6 ≤ 111) by decide) (F_n F17 (show ¬ (6 = 1 ∨ 3 ≤ 6 ∧ 6 ≤ 5 ∨ 11 ≤ 6 ∧ 6 ≤ 16 ∨ 18 ≤ 6 ∧ 6 ≤ 48) by decide) rfl))
  have t_94 : (M74.2.1 6 0).toInt = (M.2.1 6 0).toInt := congrArg Int32.toInt c_93
  have c_95 : M74.2.1 77 29 = (M.2.1 77 29) := (F_n F60 (show ¬ (77 = 77 ∧ (1 ≤ 29 ∧ 29 ≤ 2 ∨ 4 ≤ 29 ∧ 29 ≤ 10 ∨ 42 ≤ 29 ∧ 29 ≤ 44 ∨ 29 = 52) ∨ 94 ≤ 77 ∧ 77 ≤ 111) by decide) c_53)
  have t_96 : (M74.2.1 77 29).toInt = (M.2.1 77 29).toInt := congrArg Int32.toInt c_95
  have j_97 := (PI_f (tg_529 F60) p_21)
  have j_98 := (NI_f (tg_530 F60) p_22)
  have j_99 := (QI_f (tg_531 F60) p_23)
  have j_100 := (PQE_r F60.2.1 (PQE_r F17.2.1 jPQE))
  have j_101 := (TP_f (tg_532 F60) z_32)
  have j_102 := (W9_f (tg_533 F60) j_51)
  have j_103 := (AN_F F60 tg_623 (AN_F F17 tg_624 jAN))
  have j_104 := (G8_F F60 (fun a i z => show ¬ (a = 77 ∧ (1 ≤ i ∧ i ≤ 2 ∨ 4 ≤ i ∧ i ≤ 10 ∨ 42 ≤ i ∧ i ≤ 44 ∨ i = 52) ∨ 94 ≤ a ∧ a ≤ 111) by omega) (G8_F F17 (fun a i z => show ¬ (a = 1 ∨ 3 ≤ a ∧ a ≤ 5 ∨ 11 ≤ a ∧ a ≤ 16 ∨ 18 ≤ a ∧ a ≤ 48) by omega) jG8))
  have j_105 := (NE_r F60.2.1 (NE_r F17.2.1 jNE))
  have j_106 := (W8_f (tg_534 F60) j_57)
  exact h M74 (u5) (u6) ⟨⟨⟨⟨⟨⟨⟨⟨⟨hG61, ⟨j_97, j_98, j_99, j_100⟩, ⟨p_63, p_64, p_65, p_66, p_67⟩, by omega, by omega⟩, j_101, j_102⟩, j_105, by omega⟩, AN_a j_103⟩, by omega⟩, j_106⟩, by omega⟩, j_103⟩, j_104, z_84⟩ (by omega) (by omega)
set_option maxRecDepth 4000 in
set_option maxHeartbeats 0 in
theorem LW_3 {X : mm_X} {d L : Nat} {M : mm_M} {Q : Option Value → mm_M → Prop} {i : Int32} {u5 u6 : Value} (hX : g_X X) (hW : g_W X) (hW2 : g_W2 X) (hL : (X 0).1 = L) (h3 : L ≤ 3072) (hd : 40 ≤ d) (hi : 0 ≤ i.toInt) (hi2 : i.toInt + 6 ≤ (L : Int)) (H : LI10 M) (h : ∀ (M1 : mm_M) (v5 v6 : Value), LI10 M1 → M1.1.2.1 ≤ M.1.2.1 + 1 → M1.1.2.2.1 ≤ M.1.2.2.1 + 6 → mm_T X d 0 1313 [.ref mm_ext, .ref 0, .ref 77, .ref 125, .int i, v5, v6] [] M1 Q) : mm_T X d 0 299 [.ref mm_ext, .ref 0, .ref 77, .ref 125, .int i, u5, u6] [] M Q := by
  obtain ⟨⟨⟨⟨⟨⟨⟨⟨⟨hG, ⟨jPI, jNI, jQI, jPQE⟩, ⟨jFA, jWC, jNJ, jPS, jKQ⟩, jJ, jE⟩, jTP, jW9⟩, jNE, jCC⟩, -⟩, jOV⟩, jW8⟩, jNN⟩, jAN⟩, jG8, jPKA⟩ := H
  have b_1 := g_b hG (a := 77) (i := 7) (lo := 0) (hi := 500) rfl rfl
  have b_2 := g_b hG (a := 77) (i := 6) (lo := 0) (hi := 500) rfl rfl
  have b_3 := g_b hG (a := 1) (i := 1) (lo := 0) (hi := 500) rfl rfl
  have b_4 := g_b hG (a := 77) (i := 1) (lo := 0) (hi := 500) rfl rfl
  have b_5 := g_b hG (a := 0) (i := 12) (lo := 0) (hi := 30) rfl rfl
  have b_6 := g_b hG (a := 77) (i := 28) (lo := 0) (hi := 30) rfl rfl
  have b_7 := g_b hG (a := 6) (i := 0) (lo := 0) (hi := 150) rfl rfl
  have b_8 := g_b hG (a := 77) (i := 29) (lo := 0) (hi := 150) rfl rfl
  refine to_an (pc := 299) rw_0_299 rfl (to_an (pc := 300) rw_0_300 rfl (to_i (pc := 301) rw_0_301 rfl (to_c (pc := 303) rw_0_303 (x := (1 : Int32)) rfl rfl (s_add (pc := 304) rw_0_304 (A := i.toInt) (B := 1) rfl rfl (by omega) (fun v9 e10 => s_x0 (pc := 305) rw_0_305 hL (A := v9.toInt) rfl (by omega) (by omega) (fun v11 e12 => s_v (pc := 306) rw_0_306 (dp0 hd (by decide)) (ls0 := [.ref 0, .int v11, .null]) rfl (Nat.le_of_ble_eq_true rfl) (Nat.le_of_ble_eq_true rfl) rfl (to_rc rfl rfl rfl (g_o hG rfl)) rfl ?_))))))
  obtain ⟨pz13, pzz13, qz13, qzz13, hpz13, hpzz13, hqz13, hqzz13, hpqz13⟩ := id jPQE
  refine C_113 hX (dp1 hd (by decide)) hG hpz13 hpzz13 hqz13 hqzz13 hpqz13 jQI jPI jNI (n := v11) (p := pz13) (pz := pzz13) (q := qz13) (qz := qzz13) (fun r14 M23 hG16 F15 p_17 p_18 p_19 p_20 p_21 p_22 => ?_)
  have n_24 : M23.1.2.1 = M.1.2.1 ∧ M23.1.2.2.1 = M.1.2.2.1 := by rw [F15.1]; exact ⟨rfl, rfl⟩
  have b_26 := g_b hG16 (a := 1) (i := 1) (lo := 0) (hi := 500) rfl rfl
  have z_27 := G8_X F15 (fun a i z => show ¬ (a = 1 ∨ 3 ≤ a ∧ a ≤ 5 ∨ 67 ≤ a ∧ a ≤ 76) by omega) (QQ_8 hpqz13 p_20) jG8
  have z_28 := PKA_X F15 (fun a i z => show ¬ (a = 1 ∨ 3 ≤ a ∧ a ≤ 5 ∨ 67 ≤ a ∧ a ≤ 76) by omega) jPKA
  have z_29 := TP_s jTP (by omega) (fun a i z => (Fx_n F15 (show ¬ (a = 1 ∨ 3 ≤ a ∧ a ≤ 5 ∨ 67 ≤ a ∧ a ≤ 76) by omega) rfl))
  have z_30 := AN_X F15 (fun a i z => show ¬ (a = 1 ∨ 3 ≤ a ∧ a ≤ 5 ∨ 67 ≤ a ∧ a ≤ 76) by omega) (QQ_8 hpqz13 p_20) jAN
  refine to_popi (pc := 309) rw_0_309 (to_an (pc := 310) rw_0_310 rfl (to_an (pc := 311) rw_0_311 rfl (to_i (pc := 312) rw_0_312 rfl (to_c (pc := 314) rw_0_314 (x := (1 : Int32)) rfl rfl (s_addk (pc := 315) rw_0_315 (A := i.toInt) (B := 1) rfl rfl (by omega) (v := v9) e10 (s_x0k (pc := 316) rw_0_316 hL (A := v9.toInt) rfl (by omega) (by omega) (v := v11) e12 (s_v (pc := 317) rw_0_317 (dp0 hd (by decide)) (ls0 := [.ref 77, .int v11, .null]) rfl (Nat.le_of_ble_eq_true rfl) (Nat.le_of_ble_eq_true rfl) rfl (to_rc rfl rfl rfl (g_o hG16 rfl)) rfl ?_)))))))
  have c_33 : M23.2.1 77 1 = (M.2.1 77 1) := (Fx_n F15 (show ¬ (77 = 1 ∨ 3 ≤ 77 ∧ 77 ≤ 5 ∨ 67 ≤ 77 ∧ 77 ≤ 76) by decide) rfl)
  have t_34 : (M23.2.1 77 1).toInt = (M.2.1 77 1).toInt := congrArg Int32.toInt c_33
  have c_35 : M23.2.1 77 7 = (M.2.1 77 7) := (Fx_n F15 (show ¬ (77 = 1 ∨ 3 ≤ 77 ∧ 77 ≤ 5 ∨ 67 ≤ 77 ∧ 77 ≤ 76) by decide) rfl)
  have t_36 : (M23.2.1 77 7).toInt = (M.2.1 77 7).toInt := congrArg Int32.toInt c_35
  have c_37 : M23.2.1 77 6 = (M.2.1 77 6) := (Fx_n F15 (show ¬ (77 = 1 ∨ 3 ≤ 77 ∧ 77 ≤ 5 ∨ 67 ≤ 77 ∧ 77 ≤ 76) by decide) rfl)
  have t_38 : (M23.2.1 77 6).toInt = (M.2.1 77 6).toInt := congrArg Int32.toInt c_37
  have j_39 := (FA_f (tg_535 F15) jFA)
  have j_40 := (WC_f (tg_536 F15) jWC)
  have j_41 := (NJ_f (tg_537 F15) jNJ)
  have j_42 := (PS_f (tg_538 F15) jPS)
  have j_43 := (KQ_f (tg_539 F15) jKQ)
  refine C_227 hX (dp1 hd (by decide)) hG16 (by omega) j_39 j_40 j_41 j_42 j_43 (n := v11) (fun r44 M55 hG46 F45 p_47 p_48 p_49 p_50 p_51 p_52 p_53 p_54 => ?_)
  have n_56 : M55.1.2.1 = M23.1.2.1 ∧ M55.1.2.2.1 = M23.1.2.2.1 := by rw [F45.1]; exact ⟨rfl, rfl⟩
  have b_58 := g_b hG46 (a := 77) (i := 7) (lo := 0) (hi := 500) rfl rfl
  have b_59 := g_b hG46 (a := 77) (i := 6) (lo := 0) (hi := 500) rfl rfl
  have b_60 := g_b hG46 (a := 77) (i := 1) (lo := 0) (hi := 500) rfl rfl
  refine to_popi (pc := 320) rw_0_320 (to_go (pc := 321) rw_0_321 ?_)
  have c_61 : M55.2.1 1 1 = (M23.2.1 1 1) := (F_n F45 (show ¬ (1 = 77 ∧ (1 ≤ 1 ∧ 1 ≤ 2 ∨ 4 ≤ 1 ∧ 1 ≤ 10 ∨ 57 ≤ 1 ∧ 1 ≤ 59 ∨ 65 ≤ 1 ∧ 1 ≤ 69) ∨ 112 ≤ 1 ∧ 1 ≤ 116) by decide) rfl)
  have t_62 : (M55.2.1 1 1).toInt = (M23.2.1 1 1).toInt := congrArg Int32.toInt c_61
  have c_63 : M55.2.1 0 12 = (M.2.1 0 12) := (F_n F45 (show ¬ (0 = 77 ∧ (1 ≤ 12 ∧ 12 ≤ 2 ∨ 4 ≤ 12 ∧ 12 ≤ 10 ∨ 57 ≤ 12 ∧ 12 ≤ 59 ∨ 65 ≤ 12 ∧ 12 ≤ 69) ∨ 112 ≤ 0 ∧ 0 ≤ 116) by decide) (Fx_n F15 (show ¬ (0 = 1 ∨ 3 ≤ 0 ∧ 0 ≤ 5 ∨ 67 ≤ 0 ∧ 0 ≤ 76) by decide) rfl))
  have t_64 : (M55.2.1 0 12).toInt = (M.2.1 0 12).toInt := congrArg Int32.toInt c_63
  have c_65 : M55.2.1 77 28 = (M.2.1 77 28) := (F_n F45 (show ¬ (77 = 77 ∧ (1 ≤ 28 ∧ 28 ≤ 2 ∨ 4 ≤ 28 ∧ 28 ≤ 10 ∨ 57 ≤ 28 ∧ 28 ≤ 59 ∨ 65 ≤ 28 ∧ 28 ≤ 69) ∨ 112 ≤ 77 ∧ 77 ≤ 116) by decide) (Fx_n F15 (show ¬ (77 = 1 ∨ 3 ≤ 77 ∧ 77 ≤ 5 ∨ 67 ≤ 77 ∧ 77 ≤ 76) by decide) rfl))
  have t_66 : (M55.2.1 77 28).toInt = (M.2.1 77 28).toInt := congrArg Int32.toInt c_65
  have c_67 : M55.2.1 17 4 = (M.2.1 17 4) := (F_n F45 (show ¬ (17 = 77 ∧ (1 ≤ 4 ∧ 4 ≤ 2 ∨ 4 ≤ 4 ∧ 4 ≤ 10 ∨ 57 ≤ 4 ∧ 4 ≤ 59 ∨ 65 ≤ 4 ∧ 4 ≤ 69) ∨ 112 ≤ 17 ∧ 17 ≤ 116) by decide) (Fx_n F15 (show ¬ (17 = 1 ∨ 3 ≤ 17 ∧ 17 ≤ 5 ∨ 67 ≤ 17 ∧ 17 ≤ 76) by decide) rfl))
  have t_68 : (M55.2.1 17 4).toInt = (M.2.1 17 4).toInt := congrArg Int32.toInt c_67
  have c_69 : M55.2.1 77 41 = (M.2.1 77 41) := (F_n F45 (show ¬ (77 = 77 ∧ (1 ≤ 41 ∧ 41 ≤ 2 ∨ 4 ≤ 41 ∧ 41 ≤ 10 ∨ 57 ≤ 41 ∧ 41 ≤ 59 ∨ 65 ≤ 41 ∧ 41 ≤ 69) ∨ 112 ≤ 77 ∧ 77 ≤ 116) by decide) (Fx_n F15 (show ¬ (77 = 1 ∨ 3 ≤ 77 ∧ 77 ≤ 5 ∨ 67 ≤ 77 ∧ 77 ≤ 76) by decide) rfl))
  have t_70 : (M55.2.1 77 41).toInt = (M.2.1 77 41).toInt := congrArg Int32.toInt c_69
  have c_71 : M55.2.1 6 0 = (M.2.1 6 0) := (F_n F45 (show ¬ (6 = 77 ∧ (1 ≤ 0 ∧ 0 ≤ 2 ∨ 4 ≤ 0 ∧ 0 ≤ 10 ∨ 57 ≤ 0 ∧ 0 ≤ 59 ∨ 65 ≤ 0 ∧ 0 ≤ 69) ∨ 112 ≤ 6 ∧ 6 ≤ 116) by decide) (Fx_n F15 (show ¬ (6 = 1 ∨ 3 ≤ 6 ∧ 6 ≤ 5 ∨ 67 ≤ 6 ∧ 6 ≤ 76) by decide) rfl))
  have t_72 : (M55.2.1 6 0).toInt = (M.2.1 6 0).toInt := congrArg Int32.toInt c_71
  have c_73 : M55.2.1 77 29 = (M.2.1 77 29) := (F_n F45 (show ¬ (77 = 77 ∧ (1 ≤ 29 ∧ 29 ≤ 2 ∨ 4 ≤ 29 ∧ 29 ≤ 10 ∨ 57 ≤ 29 ∧ 29 ≤ 59 ∨ 65 ≤ 29 ∧ 29 ≤ 69) ∨ 112 ≤ 77 ∧ 77 ≤ 116) by decide) (Fx_n F15 (show ¬ (77 = 1 ∨ 3 ≤ 77 ∧ 77 ≤ 5 ∨ 67 ≤ 77 ∧ 77 ≤ 76) by decide) rfl))
  have t_74 : (M55.2.1 77 29).toInt = (M.2.1 77 29).toInt := congrArg Int32.toInt c_73
  have j_75 := (PI_f (tg_540 F45) p_21)
  have j_76 := (NI_f (tg_541 F45) p_22)
  have j_77 := (QI_f (tg_542 F45) p_19)
  have j_78 := (PQE_r F45.2.1 (PQE_qq hpz13 hpzz13 hqz13 hqzz13 p_20))
  have j_79 := (TP_f (tg_543 F45) z_29)
  have j_80 := (W9_f (tg_544 F45) (W9_f (tg_545 F15) jW9))
  have j_81 := (AN_F F45 tg_625 z_30)
  have j_82 := (G8_F F45 (fun a i z => show ¬ (a = 77 ∧ (1 ≤ i ∧ i ≤ 2 ∨ 4 ≤ i ∧ i ≤ 10 ∨ 57 ≤ i ∧ i ≤ 59 ∨ 65 ≤ i ∧ i ≤ 69) ∨ 112 ≤ a ∧ a ≤ 116) by omega) z_27)
  have j_83 := (PKA_F F45 (fun a i z => show ¬ (a = 77 ∧ (1 ≤ i ∧ i ≤ 2 ∨ 4 ≤ i ∧ i ≤ 10 ∨ 57 ≤ i ∧ i ≤ 59 ∨ 65 ≤ i ∧ i ≤ 69) ∨ 112 ≤ a ∧ a ≤ 116) by omega) z_28)
  have j_84 := (NE_r F45.2.1 (NE_q hpqz13 p_20 jNE))
  have j_85 := (W8_f (tg_546 F45) (W8_f (tg_547 F15) jW8))
  exact h M55 (u5) (u6) ⟨⟨⟨⟨⟨⟨⟨⟨⟨hG46, ⟨j_75, j_76, j_77, j_78⟩, ⟨p_48, p_49, p_50, p_51, p_52⟩, by omega, by omega⟩, j_79, j_80⟩, j_84, by omega⟩, AN_a j_81⟩, by omega⟩, j_85⟩, by omega⟩, j_81⟩, j_82, j_83⟩ (by omega) (by omega)
set_option maxRecDepth 4000 in
set_option maxHeartbeats 0 in
theorem LW_4 {X : mm_X} {d L : Nat} {M : mm_M} {Q : Option Value → mm_M → Prop} {i : Int32} {u5 u6 : Value} (hX : g_X X) (hW : g_W X) (hW2 : g_W2 X) (hL : (X 0).1 = L) (h3 : L ≤ 3072) (hd : 40 ≤ d) (hi : 0 ≤ i.toInt) (hi2 : i.toInt + 6 ≤ (L : Int)) (H : LI10 M) (h : ∀ (M1 : mm_M) (v5 v6 : Value), LI10 M1 → M1.1.2.1 ≤ M.1.2.1 + 1 → M1.1.2.2.1 ≤ M.1.2.2.1 + 6 → mm_T X d 0 1313 [.ref mm_ext, .ref 0, .ref 77, .ref 125, .int i, v5, v6] [] M1 Q) : mm_T X d 0 324 [.ref mm_ext, .ref 0, .ref 77, .ref 125, .int i, u5, u6] [] M Q := by
  obtain ⟨⟨⟨⟨⟨⟨⟨⟨⟨hG, ⟨jPI, jNI, jQI, jPQE⟩, ⟨jFA, jWC, jNJ, jPS, jKQ⟩, jJ, jE⟩, jTP, jW9⟩, jNE, jCC⟩, -⟩, jOV⟩, jW8⟩, jNN⟩, jAN⟩, jG8, jPKA⟩ := H
  have b_1 := g_b hG (a := 77) (i := 7) (lo := 0) (hi := 500) rfl rfl
  have b_2 := g_b hG (a := 77) (i := 6) (lo := 0) (hi := 500) rfl rfl
  have b_3 := g_b hG (a := 1) (i := 1) (lo := 0) (hi := 500) rfl rfl
  have b_4 := g_b hG (a := 77) (i := 1) (lo := 0) (hi := 500) rfl rfl
  have b_5 := g_b hG (a := 0) (i := 12) (lo := 0) (hi := 30) rfl rfl
  have b_6 := g_b hG (a := 77) (i := 28) (lo := 0) (hi := 30) rfl rfl
  have b_7 := g_b hG (a := 6) (i := 0) (lo := 0) (hi := 150) rfl rfl
  have b_8 := g_b hG (a := 77) (i := 29) (lo := 0) (hi := 150) rfl rfl
  refine to_an (pc := 324) rw_0_324 rfl (to_an (pc := 325) rw_0_325 rfl (to_i (pc := 326) rw_0_326 rfl (to_c (pc := 328) rw_0_328 (x := (1 : Int32)) rfl rfl (s_add (pc := 329) rw_0_329 (A := i.toInt) (B := 1) rfl rfl (by omega) (fun v9 e10 => s_x0 (pc := 330) rw_0_330 hL (A := v9.toInt) rfl (by omega) (by omega) (fun v11 e12 => s_v (pc := 331) rw_0_331 (dp0 hd (by decide)) (ls0 := [.ref 0, .int v11]) rfl (Nat.le_of_ble_eq_true rfl) (Nat.le_of_ble_eq_true rfl) rfl (to_rc rfl rfl rfl (g_o hG rfl)) rfl ?_))))))
  obtain ⟨pz13, pzz13, qz13, qzz13, hpz13, hpzz13, hqz13, hqzz13, hpqz13⟩ := id jPQE
  refine C_114 hX (dp1 hd (by decide)) hG hpz13 hpzz13 hqz13 hqzz13 hpqz13 (w := v11) (p := pz13) (pz := pzz13) (q := qz13) (qz := qzz13) (fun r14 M17 hG16 F15 => ?_)
  have n_18 : M17.1.2.1 = M.1.2.1 ∧ M17.1.2.2.1 = M.1.2.2.1 := by rw [F15.1]; exact ⟨rfl, rfl⟩
  refine to_popi (pc := 334) rw_0_334 (to_an (pc := 335) rw_0_335 rfl (to_an (pc := 336) rw_0_336 rfl (to_i (pc := 337) rw_0_337 rfl (to_c (pc := 339) rw_0_339 (x := (1 : Int32)) rfl rfl (s_addk (pc := 340) rw_0_340 (A := i.toInt) (B := 1) rfl rfl (by omega) (v := v9) e10 (s_x0k (pc := 341) rw_0_341 hL (A := v9.toInt) rfl (by omega) (by omega) (v := v11) e12 (s_v (pc := 342) rw_0_342 (dp0 hd (by decide)) (ls0 := [.ref 77, .int v11]) rfl (Nat.le_of_ble_eq_true rfl) (Nat.le_of_ble_eq_true rfl) rfl (to_rc rfl rfl rfl (g_o hG16 rfl)) rfl (C_174 hX (dp1 hd (by decide)) hG16 (w := v11) (fun r22 M25 hG24 F23 => ?_)))))))))
  have n_26 : M25.1.2.1 = M17.1.2.1 ∧ M25.1.2.2.1 = M17.1.2.2.1 := by rw [F23.1]; exact ⟨rfl, rfl⟩
  refine to_popi (pc := 345) rw_0_345 (to_go (pc := 346) rw_0_346 ?_)
  have c_28 : M25.2.1 77 7 = (M.2.1 77 7) := (F_n F23 (show ¬ (77 = 77 ∧ 7 = 2) by decide) (F_n F15 (show ¬ (77 < 0) by decide) rfl))
  have t_29 : (M25.2.1 77 7).toInt = (M.2.1 77 7).toInt := congrArg Int32.toInt c_28
  have c_30 : M25.2.1 77 6 = (M.2.1 77 6) := (F_n F23 (show ¬ (77 = 77 ∧ 6 = 2) by decide) (F_n F15 (show ¬ (77 < 0) by decide) rfl))
  have t_31 : (M25.2.1 77 6).toInt = (M.2.1 77 6).toInt := congrArg Int32.toInt c_30
  have c_32 : M25.2.1 1 1 = (M.2.1 1 1) := (F_n F23 (show ¬ (1 = 77 ∧ 1 = 2) by decide) (F_n F15 (show ¬ (1 < 0) by decide) rfl))
  have t_33 : (M25.2.1 1 1).toInt = (M.2.1 1 1).toInt := congrArg Int32.toInt c_32
  have c_34 : M25.2.1 77 1 = (M.2.1 77 1) := (F_n F23 (show ¬ (77 = 77 ∧ 1 = 2) by decide) (F_n F15 (show ¬ (77 < 0) by decide) rfl))
  have t_35 : (M25.2.1 77 1).toInt = (M.2.1 77 1).toInt := congrArg Int32.toInt c_34
  have c_36 : M25.2.1 0 12 = (M.2.1 0 12) := (F_n F23 (show ¬ (0 = 77 ∧ 12 = 2) by decide) (F_n F15 (show ¬ (0 < 0) by decide) rfl))
  have t_37 : (M25.2.1 0 12).toInt = (M.2.1 0 12).toInt := congrArg Int32.toInt c_36
  have c_38 : M25.2.1 77 28 = (M.2.1 77 28) := (F_n F23 (show ¬ (77 = 77 ∧ 28 = 2) by decide) (F_n F15 (show ¬ (77 < 0) by decide) rfl))
  have t_39 : (M25.2.1 77 28).toInt = (M.2.1 77 28).toInt := congrArg Int32.toInt c_38
  have c_40 : M25.2.1 17 4 = (M.2.1 17 4) := (F_n F23 (show ¬ (17 = 77 ∧ 4 = 2) by decide) (F_n F15 (show ¬ (17 < 0) by decide) rfl))
  have t_41 : (M25.2.1 17 4).toInt = (M.2.1 17 4).toInt := congrArg Int32.toInt c_40
  have c_42 : M25.2.1 77 41 = (M.2.1 77 41) := (F_n F23 (show ¬ (77 = 77 ∧ 41 = 2) by decide) (F_n F15 (show ¬ (77 < 0) by decide) rfl))
  have t_43 : (M25.2.1 77 41).toInt = (M.2.1 77 41).toInt := congrArg Int32.toInt c_42
  have c_44 : M25.2.1 6 0 = (M.2.1 6 0) := (F_n F23 (show ¬ (6 = 77 ∧ 0 = 2) by decide) (F_n F15 (show ¬ (6 < 0) by decide) rfl))
  have t_45 : (M25.2.1 6 0).toInt = (M.2.1 6 0).toInt := congrArg Int32.toInt c_44
  have c_46 : M25.2.1 77 29 = (M.2.1 77 29) := (F_n F23 (show ¬ (77 = 77 ∧ 29 = 2) by decide) (F_n F15 (show ¬ (77 < 0) by decide) rfl))
  have t_47 : (M25.2.1 77 29).toInt = (M.2.1 77 29).toInt := congrArg Int32.toInt c_46
  have j_48 := (PI_f (tg_548 F23) (PI_f (tg_99 F15) jPI))
  have j_49 := (NI_f (tg_549 F23) (NI_f (tg_98 F15) jNI))
  have j_50 := (QI_f (tg_550 F23) (QI_f (tg_100 F15) jQI))
  have j_51 := (PQE_r F23.2.1 (PQE_r F15.2.1 jPQE))
  have j_52 := (FA_f (tg_551 F23) (FA_f (tg_347 F15) jFA))
  have j_53 := (WC_f (tg_552 F23) (WC_f (tg_553 F15) jWC))
  have j_54 := (NJ_f (tg_554 F23) (NJ_f (tg_102 F15) jNJ))
  have j_55 := (PS_f (tg_555 F23) (PS_f (tg_556 F15) jPS))
  have j_56 := (KQ_f (tg_557 F23) (KQ_f (tg_452 F15) jKQ))
  have j_57 := (TP_f (tg_558 F23) (TP_f (tg_559 F15) jTP))
  have j_58 := (W9_f (tg_560 F23) (W9_f (tg_46 F15) jW9))
  have j_59 := (AN_F F23 tg_626 (AN_F F15 tg_627 jAN))
  have j_60 := (G8_F F23 (fun a i z => show ¬ (a = 77 ∧ i = 2) by omega) (G8_F F15 (fun a i z => show ¬ (a < 0) by omega) jG8))
  have j_61 := (PKA_F F23 (fun a i z => show ¬ (a = 77 ∧ i = 2) by omega) (PKA_F F15 (fun a i z => show ¬ (a < 0) by omega) jPKA))
  have j_62 := (NE_r F23.2.1 (NE_r F15.2.1 jNE))
  have j_63 := (W8_f (tg_561 F23) (W8_f (tg_562 F15) jW8))
  exact h M25 (u5) (u6) ⟨⟨⟨⟨⟨⟨⟨⟨⟨hG24, ⟨j_48, j_49, j_50, j_51⟩, ⟨j_52, j_53, j_54, j_55, j_56⟩, by omega, by omega⟩, j_57, j_58⟩, j_62, by omega⟩, AN_a j_59⟩, by omega⟩, j_63⟩, by omega⟩, j_59⟩, j_60, j_61⟩ (by omega) (by omega)
set_option maxRecDepth 4000 in
set_option maxHeartbeats 0 in
theorem LW_5 {X : mm_X} {d L : Nat} {M : mm_M} {Q : Option Value → mm_M → Prop} {i : Int32} {u5 u6 : Value} (hX : g_X X) (hW : g_W X) (hW2 : g_W2 X) (hL : (X 0).1 = L) (h3 : L ≤ 3072) (hd : 40 ≤ d) (hi : 0 ≤ i.toInt) (hi2 : i.toInt + 6 ≤ (L : Int)) (H : LI10 M) (h : ∀ (M1 : mm_M) (v5 v6 : Value), LI10 M1 → M1.1.2.1 ≤ M.1.2.1 + 1 → M1.1.2.2.1 ≤ M.1.2.2.1 + 6 → mm_T X d 0 1313 [.ref mm_ext, .ref 0, .ref 77, .ref 125, .int i, v5, v6] [] M1 Q) : mm_T X d 0 349 [.ref mm_ext, .ref 0, .ref 77, .ref 125, .int i, u5, u6] [] M Q := by
  obtain ⟨⟨⟨⟨⟨⟨⟨⟨⟨hG, ⟨jPI, jNI, jQI, jPQE⟩, ⟨jFA, jWC, jNJ, jPS, jKQ⟩, jJ, jE⟩, jTP, jW9⟩, jNE, jCC⟩, -⟩, jOV⟩, jW8⟩, jNN⟩, jAN⟩, jG8, jPKA⟩ := H
  have b_1 := g_b hG (a := 77) (i := 7) (lo := 0) (hi := 500) rfl rfl
  have b_2 := g_b hG (a := 77) (i := 6) (lo := 0) (hi := 500) rfl rfl
  have b_3 := g_b hG (a := 1) (i := 1) (lo := 0) (hi := 500) rfl rfl
  have b_4 := g_b hG (a := 77) (i := 1) (lo := 0) (hi := 500) rfl rfl
  have b_5 := g_b hG (a := 0) (i := 12) (lo := 0) (hi := 30) rfl rfl
  have b_6 := g_b hG (a := 77) (i := 28) (lo := 0) (hi := 30) rfl rfl
  have b_7 := g_b hG (a := 6) (i := 0) (lo := 0) (hi := 150) rfl rfl
  have b_8 := g_b hG (a := 77) (i := 29) (lo := 0) (hi := 150) rfl rfl
  refine to_an (pc := 349) rw_0_349 rfl (to_an (pc := 350) rw_0_350 rfl (to_i (pc := 351) rw_0_351 rfl (to_c (pc := 353) rw_0_353 (x := (1 : Int32)) rfl rfl (s_add (pc := 354) rw_0_354 (A := i.toInt) (B := 1) rfl rfl (by omega) (fun v9 e10 => s_x0 (pc := 355) rw_0_355 hL (A := v9.toInt) rfl (by omega) (by omega) (fun v11 e12 => to_an (pc := 356) rw_0_356 rfl (to_i (pc := 357) rw_0_357 rfl (to_c (pc := 359) rw_0_359 (x := (2 : Int32)) rfl rfl (s_add (pc := 360) rw_0_360 (A := i.toInt) (B := 2) rfl rfl (by omega) (fun v13 e14 => s_x0 (pc := 361) rw_0_361 hL (A := v13.toInt) rfl (by omega) (by omega) (fun v15 e16 => s_v (pc := 362) rw_0_362 (dp0 hd (by decide)) (ls0 := [.ref 0, .int v11, .int v15]) rfl (Nat.le_of_ble_eq_true rfl) (Nat.le_of_ble_eq_true rfl) rfl (to_rc rfl rfl rfl (g_o hG rfl)) rfl ?_)))))))))))
  obtain ⟨pz17, pzz17, qz17, qzz17, hpz17, hpzz17, hqz17, hqzz17, hpqz17⟩ := id jPQE
  obtain ⟨sg, NN, nz, ca, hs1, hs2, hn1, hn2, hn3, hn4, hn5⟩ := AN_u jAN hpqz17
  refine E_115 hX (dp1 hd (by decide)) hG hpz17 hpzz17 hqz17 hqzz17 hpqz17 hs1.1 (w := v11) (l := v15) (sg := sg) (p := pz17) (pz := pzz17) (q := qz17) (qz := qzz17) (fun r18 M24 hG20 F19 p_21 p_22 p_23 => ?_)
  have n_25 : M24.1.2.1 = M.1.2.1 ∧ M24.1.2.2.1 = M.1.2.2.1 := by rw [F19.1]; exact ⟨rfl, rfl⟩
  refine to_popi (pc := 365) rw_0_365 (to_an (pc := 366) rw_0_366 rfl (to_an (pc := 367) rw_0_367 rfl (to_i (pc := 368) rw_0_368 rfl (to_c (pc := 370) rw_0_370 (x := (1 : Int32)) rfl rfl (s_addk (pc := 371) rw_0_371 (A := i.toInt) (B := 1) rfl rfl (by omega) (v := v9) e10 (s_x0k (pc := 372) rw_0_372 hL (A := v9.toInt) rfl (by omega) (by omega) (v := v11) e12 (to_an (pc := 373) rw_0_373 rfl (to_i (pc := 374) rw_0_374 rfl (to_c (pc := 376) rw_0_376 (x := (2 : Int32)) rfl rfl (s_addk (pc := 377) rw_0_377 (A := i.toInt) (B := 2) rfl rfl (by omega) (v := v13) e14 (s_x0k (pc := 378) rw_0_378 hL (A := v13.toInt) rfl (by omega) (by omega) (v := v15) e16 ?_)))))))))))
  refine s_v (pc := 379) rw_0_379 (dp0 hd (by decide)) (ls0 := [.ref 77, .int v11, .int v15]) rfl (Nat.le_of_ble_eq_true rfl) (Nat.le_of_ble_eq_true rfl) rfl (to_rc rfl rfl rfl (g_o hG20 rfl)) rfl ?_
  have j_31 := (PLk_f (tg_101 F19) hs2.1)
  refine E_177 hX (dp1 hd (by decide)) hG20 j_31 (w := v11) (l := v15) (sg := sg) (fun r32 M38 hG34 F33 p_35 p_36 p_37 => ?_)
  have n_39 : M38.1.2.1 = M24.1.2.1 ∧ M38.1.2.2.1 = M24.1.2.2.1 := by rw [F33.1]; exact ⟨rfl, rfl⟩
  refine to_popi (pc := 382) rw_0_382 (to_go (pc := 383) rw_0_383 ?_)
  have c_41 : M38.2.1 77 7 = (M.2.1 77 7) := (F_n F33 (show ¬ (77 = 77 ∧ 7 = 2) by decide) (F_n F19 (show ¬ (77 < 0) by decide) rfl))
  have t_42 : (M38.2.1 77 7).toInt = (M.2.1 77 7).toInt := congrArg Int32.toInt c_41
  have c_43 : M38.2.1 77 6 = (M.2.1 77 6) := (F_n F33 (show ¬ (77 = 77 ∧ 6 = 2) by decide) (F_n F19 (show ¬ (77 < 0) by decide) rfl))
  have t_44 : (M38.2.1 77 6).toInt = (M.2.1 77 6).toInt := congrArg Int32.toInt c_43
  have c_45 : M38.2.1 1 1 = (M.2.1 1 1) := (F_n F33 (show ¬ (1 = 77 ∧ 1 = 2) by decide) (F_n F19 (show ¬ (1 < 0) by decide) rfl))
  have t_46 : (M38.2.1 1 1).toInt = (M.2.1 1 1).toInt := congrArg Int32.toInt c_45
  have c_47 : M38.2.1 77 1 = (M.2.1 77 1) := (F_n F33 (show ¬ (77 = 77 ∧ 1 = 2) by decide) (F_n F19 (show ¬ (77 < 0) by decide) rfl))
  have t_48 : (M38.2.1 77 1).toInt = (M.2.1 77 1).toInt := congrArg Int32.toInt c_47
  have c_49 : M38.2.1 0 12 = (M.2.1 0 12) := (F_n F33 (show ¬ (0 = 77 ∧ 12 = 2) by decide) (F_n F19 (show ¬ (0 < 0) by decide) rfl))
  have t_50 : (M38.2.1 0 12).toInt = (M.2.1 0 12).toInt := congrArg Int32.toInt c_49
  have c_51 : M38.2.1 77 28 = (M.2.1 77 28) := (F_n F33 (show ¬ (77 = 77 ∧ 28 = 2) by decide) (F_n F19 (show ¬ (77 < 0) by decide) rfl))
  have t_52 : (M38.2.1 77 28).toInt = (M.2.1 77 28).toInt := congrArg Int32.toInt c_51
  have c_53 : M38.2.1 17 4 = (M.2.1 17 4) := (F_n F33 (show ¬ (17 = 77 ∧ 4 = 2) by decide) (F_n F19 (show ¬ (17 < 0) by decide) rfl))
  have t_54 : (M38.2.1 17 4).toInt = (M.2.1 17 4).toInt := congrArg Int32.toInt c_53
  have c_55 : M38.2.1 77 41 = (M.2.1 77 41) := (F_n F33 (show ¬ (77 = 77 ∧ 41 = 2) by decide) (F_n F19 (show ¬ (77 < 0) by decide) rfl))
  have t_56 : (M38.2.1 77 41).toInt = (M.2.1 77 41).toInt := congrArg Int32.toInt c_55
  have c_57 : M38.2.1 6 0 = (M.2.1 6 0) := (F_n F33 (show ¬ (6 = 77 ∧ 0 = 2) by decide) (F_n F19 (show ¬ (6 < 0) by decide) rfl))
  have t_58 : (M38.2.1 6 0).toInt = (M.2.1 6 0).toInt := congrArg Int32.toInt c_57
  have c_59 : M38.2.1 77 29 = (M.2.1 77 29) := (F_n F33 (show ¬ (77 = 77 ∧ 29 = 2) by decide) (F_n F19 (show ¬ (77 < 0) by decide) rfl))
  have t_60 : (M38.2.1 77 29).toInt = (M.2.1 77 29).toInt := congrArg Int32.toInt c_59
  have j_61 := (PI_f (tg_548 F33) (PI_f (tg_99 F19) jPI))
  have j_62 := (NI_f (tg_549 F33) (NI_f (tg_98 F19) jNI))
  have j_63 := (QI_f (tg_550 F33) (QI_f (tg_100 F19) jQI))
  have j_64 := (PQE_r F33.2.1 (PQE_r F19.2.1 jPQE))
  have j_65 := (FA_f (tg_551 F33) (FA_f (tg_347 F19) jFA))
  have j_66 := (WC_f (tg_552 F33) (WC_f (tg_553 F19) jWC))
  have j_67 := (NJ_f (tg_554 F33) (NJ_f (tg_102 F19) jNJ))
  have j_68 := (PS_f (tg_555 F33) (PS_f (tg_556 F19) jPS))
  have j_69 := (KQ_f (tg_557 F33) (KQ_f (tg_452 F19) jKQ))
  have j_70 := (TP_f (tg_558 F33) (TP_f (tg_559 F19) jTP))
  have j_71 := (W9_f (tg_560 F33) (W9_f (tg_46 F19) jW9))
  have j_72 := (AN_F F33 tg_626 (AN_F F19 tg_627 jAN))
  have j_73 := (G8_F F33 (fun a i z => show ¬ (a = 77 ∧ i = 2) by omega) (G8_F F19 (fun a i z => show ¬ (a < 0) by omega) jG8))
  have j_74 := (PKA_F F33 (fun a i z => show ¬ (a = 77 ∧ i = 2) by omega) (PKA_F F19 (fun a i z => show ¬ (a < 0) by omega) jPKA))
  have j_75 := (NE_r F33.2.1 (NE_r F19.2.1 jNE))
  have j_76 := (W8_f (tg_561 F33) (W8_f (tg_562 F19) jW8))
  exact h M38 (u5) (u6) ⟨⟨⟨⟨⟨⟨⟨⟨⟨hG34, ⟨j_61, j_62, j_63, j_64⟩, ⟨j_65, j_66, j_67, j_68, j_69⟩, by omega, by omega⟩, j_70, j_71⟩, j_75, by omega⟩, AN_a j_72⟩, by omega⟩, j_76⟩, by omega⟩, j_72⟩, j_73, j_74⟩ (by omega) (by omega)
set_option maxRecDepth 4000 in
set_option maxHeartbeats 0 in
theorem LW_6 {X : mm_X} {d L : Nat} {M : mm_M} {Q : Option Value → mm_M → Prop} {i : Int32} {u5 u6 : Value} (hX : g_X X) (hW : g_W X) (hW2 : g_W2 X) (hL : (X 0).1 = L) (h3 : L ≤ 3072) (hd : 40 ≤ d) (hi : 0 ≤ i.toInt) (hi2 : i.toInt + 6 ≤ (L : Int)) (H : LI10 M) (h : ∀ (M1 : mm_M) (v5 v6 : Value), LI10 M1 → M1.1.2.1 ≤ M.1.2.1 + 1 → M1.1.2.2.1 ≤ M.1.2.2.1 + 6 → mm_T X d 0 1313 [.ref mm_ext, .ref 0, .ref 77, .ref 125, .int i, v5, v6] [] M1 Q) : mm_T X d 0 386 [.ref mm_ext, .ref 0, .ref 77, .ref 125, .int i, u5, u6] [] M Q := by
  obtain ⟨⟨⟨⟨⟨⟨⟨⟨⟨hG, ⟨jPI, jNI, jQI, jPQE⟩, ⟨jFA, jWC, jNJ, jPS, jKQ⟩, jJ, jE⟩, jTP, jW9⟩, jNE, jCC⟩, -⟩, jOV⟩, jW8⟩, jNN⟩, jAN⟩, jG8, jPKA⟩ := H
  have b_1 := g_b hG (a := 77) (i := 7) (lo := 0) (hi := 500) rfl rfl
  have b_2 := g_b hG (a := 77) (i := 6) (lo := 0) (hi := 500) rfl rfl
  have b_3 := g_b hG (a := 1) (i := 1) (lo := 0) (hi := 500) rfl rfl
  have b_4 := g_b hG (a := 77) (i := 1) (lo := 0) (hi := 500) rfl rfl
  have b_5 := g_b hG (a := 0) (i := 12) (lo := 0) (hi := 30) rfl rfl
  have b_6 := g_b hG (a := 77) (i := 28) (lo := 0) (hi := 30) rfl rfl
  have b_7 := g_b hG (a := 6) (i := 0) (lo := 0) (hi := 150) rfl rfl
  have b_8 := g_b hG (a := 77) (i := 29) (lo := 0) (hi := 150) rfl rfl
  refine to_an (pc := 386) rw_0_386 rfl (to_an (pc := 387) rw_0_387 rfl (to_i (pc := 388) rw_0_388 rfl (to_c (pc := 390) rw_0_390 (x := (1 : Int32)) rfl rfl (s_add (pc := 391) rw_0_391 (A := i.toInt) (B := 1) rfl rfl (by omega) (fun v9 e10 => s_x0 (pc := 392) rw_0_392 hL (A := v9.toInt) rfl (by omega) (by omega) (fun v11 e12 => to_an (pc := 393) rw_0_393 rfl (to_i (pc := 394) rw_0_394 rfl (to_c (pc := 396) rw_0_396 (x := (2 : Int32)) rfl rfl (s_add (pc := 397) rw_0_397 (A := i.toInt) (B := 2) rfl rfl (by omega) (fun v13 e14 => s_x0 (pc := 398) rw_0_398 hL (A := v13.toInt) rfl (by omega) (by omega) (fun v15 e16 => to_an (pc := 399) rw_0_399 rfl ?_)))))))))))
  obtain ⟨sg, hs1, hs2⟩ := (AN_a jAN)
  refine s_lkE (pc := 400) rw_0_400 (by omega) rfl hG hs1 (fun r17 M22 hG18 K19 K20 K21 n_a n_b lk_1 lk_2 lk_4 lk_3 => to_is (pc := 403) rw_0_403 (ls2 := [.ref mm_ext, .ref 0, .ref 77, .ref 125, .int i, .int r17, u6]) rfl rfl (to_an (pc := 405) rw_0_405 rfl (to_an (pc := 406) rw_0_406 rfl (to_i (pc := 407) rw_0_407 rfl (to_c (pc := 409) rw_0_409 (x := (1 : Int32)) rfl rfl (s_addk (pc := 410) rw_0_410 (A := i.toInt) (B := 1) rfl rfl (by omega) (v := v9) e10 (s_x0k (pc := 411) rw_0_411 hL (A := v9.toInt) rfl (by omega) (by omega) (v := v11) e12 (to_an (pc := 412) rw_0_412 rfl (to_i (pc := 413) rw_0_413 rfl (to_c (pc := 415) rw_0_415 (x := (2 : Int32)) rfl rfl (s_addk (pc := 416) rw_0_416 (A := i.toInt) (B := 2) rfl rfl (by omega) (v := v13) e14 ?_)))))))))))
  refine s_x0k (pc := 417) rw_0_417 hL (A := v13.toInt) rfl (by omega) (by omega) (v := v15) e16 (s_v (pc := 418) rw_0_418 (dp0 hd (by decide)) (ls0 := [.ref 77, .int v11, .int v15]) rfl (Nat.le_of_ble_eq_true rfl) (Nat.le_of_ble_eq_true rfl) rfl (to_rc rfl rfl rfl (g_o hG18 rfl)) rfl ?_)
  have j_27 := (PLk_f (fun a i z => K_n K19 rfl) hs2.1)
  refine E_182 hX (dp1 hd (by decide)) hG18 j_27 (f := v11) (w := v15) (sg := sg) (fun r28 M34 hG30 F29 p_31 p_32 p_33 => ?_)
  have n_35 : M34.1.2.1 = M22.1.2.1 ∧ M34.1.2.2.1 = M22.1.2.2.1 := by rw [F29.1]; exact ⟨rfl, rfl⟩
  refine to_is (pc := 421) rw_0_421 (ls2 := [.ref mm_ext, .ref 0, .ref 77, .ref 125, .int i, .int r17, .int r28]) rfl rfl (to_go (pc := 423) rw_0_423 ?_)
  have c_37 : M34.2.1 77 7 = (M.2.1 77 7) := (F_n F29 (show ¬ (77 = 77 ∧ 7 = 2) by decide) (K_n K19 rfl))
  have t_38 : (M34.2.1 77 7).toInt = (M.2.1 77 7).toInt := congrArg Int32.toInt c_37
  have c_39 : M34.2.1 77 6 = (M.2.1 77 6) := (F_n F29 (show ¬ (77 = 77 ∧ 6 = 2) by decide) (K_n K19 rfl))
  have t_40 : (M34.2.1 77 6).toInt = (M.2.1 77 6).toInt := congrArg Int32.toInt c_39
  have c_41 : M34.2.1 1 1 = (M.2.1 1 1) := (F_n F29 (show ¬ (1 = 77 ∧ 1 = 2) by decide) (K_n K19 rfl))
  have t_42 : (M34.2.1 1 1).toInt = (M.2.1 1 1).toInt := congrArg Int32.toInt c_41
  have c_43 : M34.2.1 77 1 = (M.2.1 77 1) := (F_n F29 (show ¬ (77 = 77 ∧ 1 = 2) by decide) (K_n K19 rfl))
  have t_44 : (M34.2.1 77 1).toInt = (M.2.1 77 1).toInt := congrArg Int32.toInt c_43
  have c_45 : M34.2.1 0 12 = (M.2.1 0 12) := (F_n F29 (show ¬ (0 = 77 ∧ 12 = 2) by decide) (K_n K19 rfl))
  have t_46 : (M34.2.1 0 12).toInt = (M.2.1 0 12).toInt := congrArg Int32.toInt c_45
  have c_47 : M34.2.1 77 28 = (M.2.1 77 28) := (F_n F29 (show ¬ (77 = 77 ∧ 28 = 2) by decide) (K_n K19 rfl))
  have t_48 : (M34.2.1 77 28).toInt = (M.2.1 77 28).toInt := congrArg Int32.toInt c_47
  have c_49 : M34.2.1 17 4 = (M.2.1 17 4) := (F_n F29 (show ¬ (17 = 77 ∧ 4 = 2) by decide) (K_n K19 rfl))
  have t_50 : (M34.2.1 17 4).toInt = (M.2.1 17 4).toInt := congrArg Int32.toInt c_49
  have c_51 : M34.2.1 77 41 = (M.2.1 77 41) := (F_n F29 (show ¬ (77 = 77 ∧ 41 = 2) by decide) (K_n K19 rfl))
  have t_52 : (M34.2.1 77 41).toInt = (M.2.1 77 41).toInt := congrArg Int32.toInt c_51
  have c_53 : M34.2.1 6 0 = (M.2.1 6 0) := (F_n F29 (show ¬ (6 = 77 ∧ 0 = 2) by decide) (K_n K19 rfl))
  have t_54 : (M34.2.1 6 0).toInt = (M.2.1 6 0).toInt := congrArg Int32.toInt c_53
  have c_55 : M34.2.1 77 29 = (M.2.1 77 29) := (F_n F29 (show ¬ (77 = 77 ∧ 29 = 2) by decide) (K_n K19 rfl))
  have t_56 : (M34.2.1 77 29).toInt = (M.2.1 77 29).toInt := congrArg Int32.toInt c_55
  have j_57 := (PI_f (tg_548 F29) (PI_f (fun a i z => K_n K19 rfl) jPI))
  have j_58 := (NI_f (tg_549 F29) (NI_f (fun a i z => K_n K19 rfl) jNI))
  have j_59 := (QI_f (tg_550 F29) (QI_f (fun a i z => K_n K19 rfl) jQI))
  have j_60 := (PQE_r F29.2.1 (PQE_r K20 jPQE))
  have j_61 := (FA_f (tg_551 F29) (FA_f (fun a i z => K_n K19 rfl) jFA))
  have j_62 := (WC_f (tg_552 F29) (WC_f (fun a i z => K_n K19 rfl) jWC))
  have j_63 := (NJ_f (tg_554 F29) (NJ_f (fun a i z => K_n K19 rfl) jNJ))
  have j_64 := (PS_f (tg_555 F29) (PS_f (fun a i z => K_n K19 rfl) jPS))
  have j_65 := (KQ_f (tg_557 F29) (KQ_f (fun a i z => K_n K19 rfl) jKQ))
  have j_66 := (TP_f (tg_558 F29) (TP_f (fun a i z => K_n K19 rfl) jTP))
  have j_67 := (W9_f (tg_560 F29) (W9_f (fun a i z => K_n K19 rfl) jW9))
  have j_68 := (AN_F F29 tg_626 (AN_K K19 K20 K21 jAN))
  have j_69 := (G8_F F29 (fun a i z => show ¬ (a = 77 ∧ i = 2) by omega) (G8_K K19 K20 K21 jG8))
  have j_70 := (PKA_F F29 (fun a i z => show ¬ (a = 77 ∧ i = 2) by omega) (PKA_K K19 K20 K21 jPKA))
  have j_71 := (NE_r F29.2.1 (NE_r K20 jNE))
  have j_72 := (W8_f (tg_561 F29) (W8_f (fun a i z => K_n K19 rfl) jW8))
  exact h M34 (.int r17) (.int r28) ⟨⟨⟨⟨⟨⟨⟨⟨⟨hG30, ⟨j_57, j_58, j_59, j_60⟩, ⟨j_61, j_62, j_63, j_64, j_65⟩, by omega, by omega⟩, j_66, j_67⟩, j_71, by omega⟩, AN_a j_68⟩, by omega⟩, j_72⟩, by omega⟩, j_68⟩, j_69, j_70⟩ (by omega) (by omega)
set_option maxRecDepth 4000 in
set_option maxHeartbeats 0 in
theorem LW_7 {X : mm_X} {d L : Nat} {M : mm_M} {Q : Option Value → mm_M → Prop} {i : Int32} {u5 u6 : Value} (hX : g_X X) (hW : g_W X) (hW2 : g_W2 X) (hL : (X 0).1 = L) (h3 : L ≤ 3072) (hd : 40 ≤ d) (hi : 0 ≤ i.toInt) (hi2 : i.toInt + 6 ≤ (L : Int)) (H : LI10 M) (h : ∀ (M1 : mm_M) (v5 v6 : Value), LI10 M1 → M1.1.2.1 ≤ M.1.2.1 + 1 → M1.1.2.2.1 ≤ M.1.2.2.1 + 6 → mm_T X d 0 1313 [.ref mm_ext, .ref 0, .ref 77, .ref 125, .int i, v5, v6] [] M1 Q) : mm_T X d 0 426 [.ref mm_ext, .ref 0, .ref 77, .ref 125, .int i, u5, u6] [] M Q := by
  obtain ⟨⟨⟨⟨⟨⟨⟨⟨⟨hG, ⟨jPI, jNI, jQI, jPQE⟩, ⟨jFA, jWC, jNJ, jPS, jKQ⟩, jJ, jE⟩, jTP, jW9⟩, jNE, jCC⟩, -⟩, jOV⟩, jW8⟩, jNN⟩, jAN⟩, jG8, jPKA⟩ := H
  have b_1 := g_b hG (a := 77) (i := 7) (lo := 0) (hi := 500) rfl rfl
  have b_2 := g_b hG (a := 77) (i := 6) (lo := 0) (hi := 500) rfl rfl
  have b_3 := g_b hG (a := 1) (i := 1) (lo := 0) (hi := 500) rfl rfl
  have b_4 := g_b hG (a := 77) (i := 1) (lo := 0) (hi := 500) rfl rfl
  have b_5 := g_b hG (a := 0) (i := 12) (lo := 0) (hi := 30) rfl rfl
  have b_6 := g_b hG (a := 77) (i := 28) (lo := 0) (hi := 30) rfl rfl
  have b_7 := g_b hG (a := 6) (i := 0) (lo := 0) (hi := 150) rfl rfl
  have b_8 := g_b hG (a := 77) (i := 29) (lo := 0) (hi := 150) rfl rfl
  refine to_an (pc := 426) rw_0_426 rfl (to_an (pc := 427) rw_0_427 rfl (to_i (pc := 428) rw_0_428 rfl (to_c (pc := 430) rw_0_430 (x := (1 : Int32)) rfl rfl (s_add (pc := 431) rw_0_431 (A := i.toInt) (B := 1) rfl rfl (by omega) (fun v9 e10 => s_x0 (pc := 432) rw_0_432 hL (A := v9.toInt) rfl (by omega) (by omega) (fun v11 e12 => to_an (pc := 433) rw_0_433 rfl (to_i (pc := 434) rw_0_434 rfl (to_c (pc := 436) rw_0_436 (x := (2 : Int32)) rfl rfl (s_add (pc := 437) rw_0_437 (A := i.toInt) (B := 2) rfl rfl (by omega) (fun v13 e14 => s_x0 (pc := 438) rw_0_438 hL (A := v13.toInt) rfl (by omega) (by omega) (fun v15 e16 => s_v (pc := 439) rw_0_439 (dp0 hd (by decide)) (ls0 := [.ref 0, .int v11, .int v15]) rfl (Nat.le_of_ble_eq_true rfl) (Nat.le_of_ble_eq_true rfl) rfl (to_rc rfl rfl rfl (g_o hG rfl)) rfl ?_)))))))))))
  obtain ⟨pz17, pzz17, qz17, qzz17, hpz17, hpzz17, hqz17, hqzz17, hpqz17⟩ := id jPQE
  obtain ⟨sg, NN, nz, ca, hs1, hs2, hn1, hn2, hn3, hn4, hn5⟩ := AN_u jAN hpqz17
  refine E_116 hX (dp1 hd (by decide)) hG hpz17 hpzz17 hqz17 hqzz17 hpqz17 hs1.1 hW2 (f := v11) (v := v15) (sg := sg) (p := pz17) (pz := pzz17) (q := qz17) (qz := qzz17) (fun r18 M22 hG20 F19 p_21 => ?_)
  have n_23 : M22.1.2.1 = M.1.2.1 ∧ M22.1.2.2.1 = M.1.2.2.1 := by rw [F19.1]; exact ⟨rfl, rfl⟩
  refine s_pop2 (pc := 442) rw_0_442 (to_an (pc := 443) rw_0_443 rfl (to_an (pc := 444) rw_0_444 rfl (to_i (pc := 445) rw_0_445 rfl (to_c (pc := 447) rw_0_447 (x := (1 : Int32)) rfl rfl (s_addk (pc := 448) rw_0_448 (A := i.toInt) (B := 1) rfl rfl (by omega) (v := v9) e10 (s_x0k (pc := 449) rw_0_449 hL (A := v9.toInt) rfl (by omega) (by omega) (v := v11) e12 (to_an (pc := 450) rw_0_450 rfl (to_i (pc := 451) rw_0_451 rfl (to_c (pc := 453) rw_0_453 (x := (2 : Int32)) rfl rfl (s_addk (pc := 454) rw_0_454 (A := i.toInt) (B := 2) rfl rfl (by omega) (v := v13) e14 (s_x0k (pc := 455) rw_0_455 hL (A := v13.toInt) rfl (by omega) (by omega) (v := v15) e16 ?_)))))))))))
  refine s_v (pc := 456) rw_0_456 (dp0 hd (by decide)) (ls0 := [.ref 77, .int v11, .int v15]) rfl (Nat.le_of_ble_eq_true rfl) (Nat.le_of_ble_eq_true rfl) rfl (to_rc rfl rfl rfl (g_o hG20 rfl)) rfl ?_
  have j_29 := (FA_f (tg_347 F19) jFA)
  have j_30 := (PLk_f (tg_101 F19) hs2.1)
  have j_31 := (W8_f (tg_562 F19) jW8)
  refine E_185 hX (dp1 hd (by decide)) hG20 j_29 j_30 j_31 (f := v11) (v := v15) (sg := sg) (fun r32 M36 hG34 F33 p_35 => ?_)
  have n_37 : M36.1.2.1 = M22.1.2.1 ∧ M36.1.2.2.1 = M22.1.2.2.1 := by rw [F33.1]; exact ⟨rfl, rfl⟩
  have z_39 := x_eq_1.mpr (p_21.trans p_35.symm)
  refine s_pop2 (pc := 459) rw_0_459 (to_go (pc := 460) rw_0_460 ?_)
  have c_40 : M36.2.1 77 7 = (M.2.1 77 7) := (F_n F33 (show ¬ (77 = 77 ∧ 7 = 2) by decide) (F_n F19 (show ¬ (77 < 0) by decide) rfl))
  have t_41 : (M36.2.1 77 7).toInt = (M.2.1 77 7).toInt := congrArg Int32.toInt c_40
  have c_42 : M36.2.1 77 6 = (M.2.1 77 6) := (F_n F33 (show ¬ (77 = 77 ∧ 6 = 2) by decide) (F_n F19 (show ¬ (77 < 0) by decide) rfl))
  have t_43 : (M36.2.1 77 6).toInt = (M.2.1 77 6).toInt := congrArg Int32.toInt c_42
  have c_44 : M36.2.1 1 1 = (M.2.1 1 1) := (F_n F33 (show ¬ (1 = 77 ∧ 1 = 2) by decide) (F_n F19 (show ¬ (1 < 0) by decide) rfl))
  have t_45 : (M36.2.1 1 1).toInt = (M.2.1 1 1).toInt := congrArg Int32.toInt c_44
  have c_46 : M36.2.1 77 1 = (M.2.1 77 1) := (F_n F33 (show ¬ (77 = 77 ∧ 1 = 2) by decide) (F_n F19 (show ¬ (77 < 0) by decide) rfl))
  have t_47 : (M36.2.1 77 1).toInt = (M.2.1 77 1).toInt := congrArg Int32.toInt c_46
  have c_48 : M36.2.1 0 12 = (M.2.1 0 12) := (F_n F33 (show ¬ (0 = 77 ∧ 12 = 2) by decide) (F_n F19 (show ¬ (0 < 0) by decide) rfl))
  have t_49 : (M36.2.1 0 12).toInt = (M.2.1 0 12).toInt := congrArg Int32.toInt c_48
  have c_50 : M36.2.1 77 28 = (M.2.1 77 28) := (F_n F33 (show ¬ (77 = 77 ∧ 28 = 2) by decide) (F_n F19 (show ¬ (77 < 0) by decide) rfl))
  have t_51 : (M36.2.1 77 28).toInt = (M.2.1 77 28).toInt := congrArg Int32.toInt c_50
  have c_52 : M36.2.1 17 4 = (M.2.1 17 4) := (F_n F33 (show ¬ (17 = 77 ∧ 4 = 2) by decide) (F_n F19 (show ¬ (17 < 0) by decide) rfl))
  have t_53 : (M36.2.1 17 4).toInt = (M.2.1 17 4).toInt := congrArg Int32.toInt c_52
  have c_54 : M36.2.1 77 41 = (M.2.1 77 41) := (F_n F33 (show ¬ (77 = 77 ∧ 41 = 2) by decide) (F_n F19 (show ¬ (77 < 0) by decide) rfl))
  have t_55 : (M36.2.1 77 41).toInt = (M.2.1 77 41).toInt := congrArg Int32.toInt c_54
  have c_56 : M36.2.1 6 0 = (M.2.1 6 0) := (F_n F33 (show ¬ (6 = 77 ∧ 0 = 2) by decide) (F_n F19 (show ¬ (6 < 0) by decide) rfl))
  have t_57 : (M36.2.1 6 0).toInt = (M.2.1 6 0).toInt := congrArg Int32.toInt c_56
  have c_58 : M36.2.1 77 29 = (M.2.1 77 29) := (F_n F33 (show ¬ (77 = 77 ∧ 29 = 2) by decide) (F_n F19 (show ¬ (77 < 0) by decide) rfl))
  have t_59 : (M36.2.1 77 29).toInt = (M.2.1 77 29).toInt := congrArg Int32.toInt c_58
  have j_60 := (PI_f (tg_548 F33) (PI_f (tg_99 F19) jPI))
  have j_61 := (NI_f (tg_549 F33) (NI_f (tg_98 F19) jNI))
  have j_62 := (QI_f (tg_550 F33) (QI_f (tg_100 F19) jQI))
  have j_63 := (PQE_r F33.2.1 (PQE_r F19.2.1 jPQE))
  have j_64 := (FA_f (tg_551 F33) j_29)
  have j_65 := (WC_f (tg_552 F33) (WC_f (tg_553 F19) jWC))
  have j_66 := (NJ_f (tg_554 F33) (NJ_f (tg_102 F19) jNJ))
  have j_67 := (PS_f (tg_555 F33) (PS_f (tg_556 F19) jPS))
  have j_68 := (KQ_f (tg_557 F33) (KQ_f (tg_452 F19) jKQ))
  have j_69 := (TP_f (tg_558 F33) (TP_f (tg_559 F19) jTP))
  have j_70 := (W9_f (tg_560 F33) (W9_f (tg_46 F19) jW9))
  have j_71 := (AN_F F33 tg_626 (AN_F F19 tg_627 jAN))
  have j_72 := (G8_F F33 (fun a i z => show ¬ (a = 77 ∧ i = 2) by omega) (G8_F F19 (fun a i z => show ¬ (a < 0) by omega) jG8))
  have j_73 := (PKA_F F33 (fun a i z => show ¬ (a = 77 ∧ i = 2) by omega) (PKA_F F19 (fun a i z => show ¬ (a < 0) by omega) jPKA))
  have j_74 := (NE_r F33.2.1 (NE_r F19.2.1 jNE))
  have j_75 := (W8_f (tg_561 F33) j_31)
  exact h M36 (u5) (u6) ⟨⟨⟨⟨⟨⟨⟨⟨⟨hG34, ⟨j_60, j_61, j_62, j_63⟩, ⟨j_64, j_65, j_66, j_67, j_68⟩, by omega, by omega⟩, j_69, j_70⟩, j_74, by omega⟩, AN_a j_71⟩, by omega⟩, j_75⟩, by omega⟩, j_71⟩, j_72, j_73⟩ (by omega) (by omega)
set_option maxRecDepth 4000 in
set_option maxHeartbeats 0 in
theorem LW_8 {X : mm_X} {d L : Nat} {M : mm_M} {Q : Option Value → mm_M → Prop} {i : Int32} {u5 u6 : Value} (hX : g_X X) (hW : g_W X) (hW2 : g_W2 X) (hL : (X 0).1 = L) (h3 : L ≤ 3072) (hd : 40 ≤ d) (hi : 0 ≤ i.toInt) (hi2 : i.toInt + 6 ≤ (L : Int)) (H : LI10 M) (h : ∀ (M1 : mm_M) (v5 v6 : Value), LI10 M1 → M1.1.2.1 ≤ M.1.2.1 + 1 → M1.1.2.2.1 ≤ M.1.2.2.1 + 6 → mm_T X d 0 1313 [.ref mm_ext, .ref 0, .ref 77, .ref 125, .int i, v5, v6] [] M1 Q) : mm_T X d 0 463 [.ref mm_ext, .ref 0, .ref 77, .ref 125, .int i, u5, u6] [] M Q := by
  obtain ⟨⟨⟨⟨⟨⟨⟨⟨⟨hG, ⟨jPI, jNI, jQI, jPQE⟩, ⟨jFA, jWC, jNJ, jPS, jKQ⟩, jJ, jE⟩, jTP, jW9⟩, jNE, jCC⟩, -⟩, jOV⟩, jW8⟩, jNN⟩, jAN⟩, jG8, jPKA⟩ := H
  have b_1 := g_b hG (a := 77) (i := 7) (lo := 0) (hi := 500) rfl rfl
  have b_2 := g_b hG (a := 77) (i := 6) (lo := 0) (hi := 500) rfl rfl
  have b_3 := g_b hG (a := 1) (i := 1) (lo := 0) (hi := 500) rfl rfl
  have b_4 := g_b hG (a := 77) (i := 1) (lo := 0) (hi := 500) rfl rfl
  have b_5 := g_b hG (a := 0) (i := 12) (lo := 0) (hi := 30) rfl rfl
  have b_6 := g_b hG (a := 77) (i := 28) (lo := 0) (hi := 30) rfl rfl
  have b_7 := g_b hG (a := 6) (i := 0) (lo := 0) (hi := 150) rfl rfl
  have b_8 := g_b hG (a := 77) (i := 29) (lo := 0) (hi := 150) rfl rfl
  refine to_an (pc := 463) rw_0_463 rfl (to_an (pc := 464) rw_0_464 rfl (to_i (pc := 465) rw_0_465 rfl (to_c (pc := 467) rw_0_467 (x := (1 : Int32)) rfl rfl (s_add (pc := 468) rw_0_468 (A := i.toInt) (B := 1) rfl rfl (by omega) (fun v9 e10 => s_x0 (pc := 469) rw_0_469 hL (A := v9.toInt) rfl (by omega) (by omega) (fun v11 e12 => to_an (pc := 470) rw_0_470 rfl (to_i (pc := 471) rw_0_471 rfl (to_c (pc := 473) rw_0_473 (x := (2 : Int32)) rfl rfl (s_add (pc := 474) rw_0_474 (A := i.toInt) (B := 2) rfl rfl (by omega) (fun v13 e14 => s_x0 (pc := 475) rw_0_475 hL (A := v13.toInt) rfl (by omega) (by omega) (fun v15 e16 => s_v (pc := 476) rw_0_476 (dp0 hd (by decide)) (ls0 := [.ref 0, .int v11, .int v15]) rfl (Nat.le_of_ble_eq_true rfl) (Nat.le_of_ble_eq_true rfl) rfl (to_rc rfl rfl rfl (g_o hG rfl)) rfl ?_)))))))))))
  obtain ⟨pz17, pzz17, qz17, qzz17, hpz17, hpzz17, hqz17, hqzz17, hpqz17⟩ := id jPQE
  obtain ⟨sg, NN, nz, ca, hs1, hs2, hn1, hn2, hn3, hn4, hn5⟩ := AN_u jAN hpqz17
  refine E_117 hX (dp1 hd (by decide)) hG hpz17 hpzz17 hqz17 hqzz17 hpqz17 hs1.1 hs1.2 hW2 hn1 hn3 (by omega) (by omega) (by omega) (n := v11) (w := v15) (sg := sg) (NN := NN) (nz := nz) (ca := ca) (p := pz17) (pz := pzz17) (q := qz17) (qz := qzz17) (fun r18 M22 hG20 F19 p_21 => ?_)
  have n_23 : M22.1.2.1 = M.1.2.1 ∧ M22.1.2.2.1 = M.1.2.2.1 := by rw [F19.1]; exact ⟨rfl, rfl⟩
  refine s_pop2 (pc := 479) rw_0_479 (to_an (pc := 480) rw_0_480 rfl (to_an (pc := 481) rw_0_481 rfl (to_i (pc := 482) rw_0_482 rfl (to_c (pc := 484) rw_0_484 (x := (1 : Int32)) rfl rfl (s_addk (pc := 485) rw_0_485 (A := i.toInt) (B := 1) rfl rfl (by omega) (v := v9) e10 (s_x0k (pc := 486) rw_0_486 hL (A := v9.toInt) rfl (by omega) (by omega) (v := v11) e12 (to_an (pc := 487) rw_0_487 rfl (to_i (pc := 488) rw_0_488 rfl (to_c (pc := 490) rw_0_490 (x := (2 : Int32)) rfl rfl (s_addk (pc := 491) rw_0_491 (A := i.toInt) (B := 2) rfl rfl (by omega) (v := v13) e14 (s_x0k (pc := 492) rw_0_492 hL (A := v13.toInt) rfl (by omega) (by omega) (v := v15) e16 ?_)))))))))))
  refine s_v (pc := 493) rw_0_493 (dp0 hd (by decide)) (ls0 := [.ref 77, .int v11, .int v15]) rfl (Nat.le_of_ble_eq_true rfl) (Nat.le_of_ble_eq_true rfl) rfl (to_rc rfl rfl rfl (g_o hG20 rfl)) rfl ?_
  have c_29 : M22.2.1 77 29 = (M.2.1 77 29) := (F_n F19 (show ¬ (11 ≤ 77 ∧ 77 ≤ 16) by decide) rfl)
  have t_30 : (M22.2.1 77 29).toInt = (M.2.1 77 29).toInt := congrArg Int32.toInt c_29
  have c_31 : M22.2.1 77 28 = (M.2.1 77 28) := (F_n F19 (show ¬ (11 ≤ 77 ∧ 77 ≤ 16) by decide) rfl)
  have t_32 : (M22.2.1 77 28).toInt = (M.2.1 77 28).toInt := congrArg Int32.toInt c_31
  have j_33 := (CWk_f (fun k hk9 => F_nl F19 (show ¬ (11 ≤ 87 ∧ 87 ≤ 16) by decide) rfl) hs2.2)
  have j_34 := (FA_f (tg_563 F19) jFA)
  have j_35 := (PLk_f (tg_564 F19) hs2.1)
  have j_36 := (W8_f (tg_565 F19) jW8)
  have j_37 := (NTr_f (tg_566 F19) hn2)
  refine E_192 hX (dp1 hd (by decide)) hG20 hn3 (by omega) (by omega) (by omega) j_33 j_34 j_35 j_36 j_37 (n := v11) (w := v15) (sg := sg) (NN := NN) (nz := nz) (ca := ca) (fun r38 M42 hG40 F39 p_41 => ?_)
  have n_43 : M42.1.2.1 = M22.1.2.1 ∧ M42.1.2.2.1 = M22.1.2.2.1 := by rw [F39.1]; exact ⟨rfl, rfl⟩
  have z_45 := x_eq_1.mpr (p_21.trans p_41.symm)
  refine s_pop2 (pc := 496) rw_0_496 (to_go (pc := 497) rw_0_497 ?_)
  have c_46 : M42.2.1 77 7 = (M.2.1 77 7) := (F_n F39 (show ¬ (77 = 77 ∧ 7 = 2 ∨ 94 ≤ 77 ∧ 77 ≤ 98) by decide) (F_n F19 (show ¬ (11 ≤ 77 ∧ 77 ≤ 16) by decide) rfl))
  have t_47 : (M42.2.1 77 7).toInt = (M.2.1 77 7).toInt := congrArg Int32.toInt c_46
  have c_48 : M42.2.1 77 6 = (M.2.1 77 6) := (F_n F39 (show ¬ (77 = 77 ∧ 6 = 2 ∨ 94 ≤ 77 ∧ 77 ≤ 98) by decide) (F_n F19 (show ¬ (11 ≤ 77 ∧ 77 ≤ 16) by decide) rfl))
  have t_49 : (M42.2.1 77 6).toInt = (M.2.1 77 6).toInt := congrArg Int32.toInt c_48
  have c_50 : M42.2.1 1 1 = (M.2.1 1 1) := (F_n F39 (show ¬ (1 = 77 ∧ 1 = 2 ∨ 94 ≤ 1 ∧ 1 ≤ 98) by decide) (F_n F19 (show ¬ (11 ≤ 1 ∧ 1 ≤ 16) by decide) rfl))
  have t_51 : (M42.2.1 1 1).toInt = (M.2.1 1 1).toInt := congrArg Int32.toInt c_50
  have c_52 : M42.2.1 77 1 = (M.2.1 77 1) := (F_n F39 (show ¬ (77 = 77 ∧ 1 = 2 ∨ 94 ≤ 77 ∧ 77 ≤ 98) by decide) (F_n F19 (show ¬ (11 ≤ 77 ∧ 77 ≤ 16) by decide) rfl))
  have t_53 : (M42.2.1 77 1).toInt = (M.2.1 77 1).toInt := congrArg Int32.toInt c_52
  have c_54 : M42.2.1 0 12 = (M.2.1 0 12) := (F_n F39 (show ¬ (0 = 77 ∧ 12 = 2 ∨ 94 ≤ 0 ∧ 0 ≤ 98) by decide) (F_n F19 (show ¬ (11 ≤ 0 ∧ 0 ≤ 16) by decide) rfl))
  have t_55 : (M42.2.1 0 12).toInt = (M.2.1 0 12).toInt := congrArg Int32.toInt c_54
  have c_56 : M42.2.1 77 28 = (M.2.1 77 28) := (F_n F39 (show ¬ (77 = 77 ∧ 28 = 2 ∨ 94 ≤ 77 ∧ 77 ≤ 98) by decide) c_31)
  have t_57 : (M42.2.1 77 28).toInt = (M.2.1 77 28).toInt := congrArg Int32.toInt c_56
  have c_58 : M42.2.1 17 4 = (M.2.1 17 4) := (F_n F39 (show ¬ (17 = 77 ∧ 4 = 2 ∨ 94 ≤ 17 ∧ 17 ≤ 98) by decide) (F_n F19 (show ¬ (11 ≤ 17 ∧ 17 ≤ 16) by decide) rfl))
  have t_59 : (M42.2.1 17 4).toInt = (M.2.1 17 4).toInt := congrArg Int32.toInt c_58
  have c_60 : M42.2.1 77 41 = (M.2.1 77 41) := (F_n F39 (show ¬ (77 = 77 ∧ 41 = 2 ∨ 94 ≤ 77 ∧ 77 ≤ 98) by decide) (F_n F19 (show ¬ (11 ≤ 77 ∧ 77 ≤ 16) by decide) rfl))
  have t_61 : (M42.2.1 77 41).toInt = (M.2.1 77 41).toInt := congrArg Int32.toInt c_60
  have c_62 : M42.2.1 6 0 = (M.2.1 6 0) := (F_n F39 (show ¬ (6 = 77 ∧ 0 = 2 ∨ 94 ≤ 6 ∧ 6 ≤ 98) by decide) (F_n F19 (show ¬ (11 ≤ 6 ∧ 6 ≤ 16) by decide) rfl))
  have t_63 : (M42.2.1 6 0).toInt = (M.2.1 6 0).toInt := congrArg Int32.toInt c_62
  have c_64 : M42.2.1 77 29 = (M.2.1 77 29) := (F_n F39 (show ¬ (77 = 77 ∧ 29 = 2 ∨ 94 ≤ 77 ∧ 77 ≤ 98) by decide) c_29)
  have t_65 : (M42.2.1 77 29).toInt = (M.2.1 77 29).toInt := congrArg Int32.toInt c_64
  have j_66 := (PI_f (tg_567 F39) (PI_f (tg_302 F19) jPI))
  have j_67 := (NI_f (tg_568 F39) (NI_f (tg_258 F19) jNI))
  have j_68 := (QI_f (tg_569 F39) (QI_f (tg_309 F19) jQI))
  have j_69 := (PQE_r F39.2.1 (PQE_r F19.2.1 jPQE))
  have j_70 := (FA_f (tg_570 F39) j_34)
  have j_71 := (WC_f (tg_571 F39) (WC_f (tg_572 F19) jWC))
  have j_72 := (NJ_f (tg_573 F39) (NJ_f (tg_574 F19) jNJ))
  have j_73 := (PS_f (tg_575 F39) (PS_f (tg_576 F19) jPS))
  have j_74 := (KQ_f (tg_577 F39) (KQ_f (tg_578 F19) jKQ))
  have j_75 := (TP_f (tg_579 F39) (TP_f (tg_580 F19) jTP))
  have j_76 := (W9_f (tg_581 F39) (W9_f (tg_582 F19) jW9))
  have j_77 := (AN_F F39 tg_628 (AN_F F19 tg_629 jAN))
  have j_78 := (G8_F F39 (fun a i z => show ¬ (a = 77 ∧ i = 2 ∨ 94 ≤ a ∧ a ≤ 98) by omega) (G8_F F19 (fun a i z => show ¬ (11 ≤ a ∧ a ≤ 16) by omega) jG8))
  have j_79 := (PKA_F F39 (fun a i z => show ¬ (a = 77 ∧ i = 2 ∨ 94 ≤ a ∧ a ≤ 98) by omega) (PKA_F F19 (fun a i z => show ¬ (11 ≤ a ∧ a ≤ 16) by omega) jPKA))
  have j_80 := (NE_r F39.2.1 (NE_r F19.2.1 jNE))
  have j_81 := (W8_f (tg_583 F39) j_36)
  exact h M42 (u5) (u6) ⟨⟨⟨⟨⟨⟨⟨⟨⟨hG40, ⟨j_66, j_67, j_68, j_69⟩, ⟨j_70, j_71, j_72, j_73, j_74⟩, by omega, by omega⟩, j_75, j_76⟩, j_80, by omega⟩, AN_a j_77⟩, by omega⟩, j_81⟩, by omega⟩, j_77⟩, j_78, j_79⟩ (by omega) (by omega)
set_option maxRecDepth 4000 in
set_option maxHeartbeats 0 in
theorem LW_9 {X : mm_X} {d L : Nat} {M : mm_M} {Q : Option Value → mm_M → Prop} {i : Int32} {u5 u6 : Value} (hX : g_X X) (hW : g_W X) (hW2 : g_W2 X) (hL : (X 0).1 = L) (h3 : L ≤ 3072) (hd : 40 ≤ d) (hi : 0 ≤ i.toInt) (hi2 : i.toInt + 6 ≤ (L : Int)) (H : LI10 M) (h : ∀ (M1 : mm_M) (v5 v6 : Value), LI10 M1 → M1.1.2.1 ≤ M.1.2.1 + 1 → M1.1.2.2.1 ≤ M.1.2.2.1 + 6 → mm_T X d 0 1313 [.ref mm_ext, .ref 0, .ref 77, .ref 125, .int i, v5, v6] [] M1 Q) : mm_T X d 0 500 [.ref mm_ext, .ref 0, .ref 77, .ref 125, .int i, u5, u6] [] M Q := by
  obtain ⟨⟨⟨⟨⟨⟨⟨⟨⟨hG, ⟨jPI, jNI, jQI, jPQE⟩, ⟨jFA, jWC, jNJ, jPS, jKQ⟩, jJ, jE⟩, jTP, jW9⟩, jNE, jCC⟩, -⟩, jOV⟩, jW8⟩, jNN⟩, jAN⟩, jG8, jPKA⟩ := H
  have b_1 := g_b hG (a := 77) (i := 7) (lo := 0) (hi := 500) rfl rfl
  have b_2 := g_b hG (a := 77) (i := 6) (lo := 0) (hi := 500) rfl rfl
  have b_3 := g_b hG (a := 1) (i := 1) (lo := 0) (hi := 500) rfl rfl
  have b_4 := g_b hG (a := 77) (i := 1) (lo := 0) (hi := 500) rfl rfl
  have b_5 := g_b hG (a := 0) (i := 12) (lo := 0) (hi := 30) rfl rfl
  have b_6 := g_b hG (a := 77) (i := 28) (lo := 0) (hi := 30) rfl rfl
  have b_7 := g_b hG (a := 6) (i := 0) (lo := 0) (hi := 150) rfl rfl
  have b_8 := g_b hG (a := 77) (i := 29) (lo := 0) (hi := 150) rfl rfl
  refine to_an (pc := 500) rw_0_500 rfl (s_v (pc := 501) rw_0_501 (dp0 hd (by decide)) (ls0 := [.ref 0]) rfl (Nat.le_of_ble_eq_true rfl) (Nat.le_of_ble_eq_true rfl) rfl (to_rc rfl rfl rfl (g_o hG rfl)) rfl ?_)
  obtain ⟨pz9, pzz9, qz9, qzz9, hpz9, hpzz9, hqz9, hqzz9, hpqz9⟩ := id jPQE
  obtain ⟨ca, hn5⟩ : ∃ z : Int, (M.2.1 0 12).toInt = z := ⟨_, rfl⟩
  obtain ⟨P9, pk1, pk2, pk3⟩ := PKA_u jPKA hn5
  obtain ⟨n9, hn9⟩ : ∃ z : Int, z = ca := ⟨_, rfl⟩
  refine D_118 hX (dp1 hd (by decide)) hG hpz9 hpzz9 hqz9 hqzz9 hpqz9 jPI jNI jQI pk1 (by rw [hn9]; exact pk3) (by omega) (P9 := P9) (ca := ca) (n9 := n9) (p := pz9) (pz := pzz9) (q := qz9) (qz := qzz9) (fun r10 M20 hG12 F11 p_13 p_14 p_15 p_16 p_17 p_18 p_19 => ?_)
  have n_21 : M20.1.2.1 = M.1.2.1 ∧ M20.1.2.2.1 = M.1.2.2.1 := by rw [F11.1]; exact ⟨rfl, rfl⟩
  have b_23 := g_b hG12 (a := 0) (i := 12) (lo := 0) (hi := 30) rfl rfl
  have z_24 := AN_C F11 (fun a i z => show ¬ (a = 0 ∧ i = 12 ∨ 18 ≤ a ∧ a ≤ 27) by omega) (by omega) jAN
  refine to_popi (pc := 504) rw_0_504 (to_an (pc := 505) rw_0_505 rfl (s_v (pc := 506) rw_0_506 (dp0 hd (by decide)) (ls0 := [.ref 77]) rfl (Nat.le_of_ble_eq_true rfl) (Nat.le_of_ble_eq_true rfl) rfl (to_rc rfl rfl rfl (g_o hG12 rfl)) rfl ?_))
  have c_25 : M20.2.1 77 28 = (M.2.1 77 28) := (F_n F11 (show ¬ (77 = 0 ∧ 28 = 12 ∨ 18 ≤ 77 ∧ 77 ≤ 27) by decide) rfl)
  have t_26 : (M20.2.1 77 28).toInt = (M.2.1 77 28).toInt := congrArg Int32.toInt c_25
  have c_27 : M20.2.1 77 41 = (M.2.1 77 41) := (F_n F11 (show ¬ (77 = 0 ∧ 41 = 12 ∨ 18 ≤ 77 ∧ 77 ≤ 27) by decide) rfl)
  have t_28 : (M20.2.1 77 41).toInt = (M.2.1 77 41).toInt := congrArg Int32.toInt c_27
  have j_29 := (PS_f (tg_584 F11) jPS)
  have j_30 := (PKr_f (fun a i z => F_n F11 (show ¬ (a = 0 ∧ i = 12 ∨ 18 ≤ a ∧ a ≤ 27) by omega) rfl) pk2)
  refine D_193 hX (dp1 hd (by decide)) hG12 j_29 j_30 (by rw [hn9]; exact pk3) (by omega) (by omega) (P9 := P9) (ca := ca) (n9 := n9) (fun r31 M39 hG33 F32 p_34 p_35 p_36 p_37 p_38 => ?_)
  have n_40 : M39.1.2.1 = M20.1.2.1 ∧ M39.1.2.2.1 = M20.1.2.2.1 := by rw [F32.1]; exact ⟨rfl, rfl⟩
  have b_42 := g_b hG33 (a := 77) (i := 28) (lo := 0) (hi := 30) rfl rfl
  have c_43 : M39.2.1 0 12 = (M20.2.1 0 12) := (F_n F32 (show ¬ (0 = 77 ∧ (12 = 2 ∨ 12 = 28) ∨ 0 = 99 ∨ 0 = 100) by decide) rfl)
  have t_44 : (M39.2.1 0 12).toInt = (M20.2.1 0 12).toInt := congrArg Int32.toInt c_43
  have z_45 : PKA M39 := PK_cd (n := ca) (by omega) (fun z => (PKc_f (fun a i z => (F_n F32 (show ¬ (a = 77 ∧ (i = 2 ∨ i = 28) ∨ a = 99 ∨ a = 100) by omega) rfl)) (by rw [← hn9]; exact p_18 (by omega)))) (fun z => (PKc_f (fun a i z => (F_n F32 (show ¬ (a = 77 ∧ (i = 2 ∨ i = 28) ∨ a = 99 ∨ a = 100) by omega) rfl)) (p_19 (by omega)))) (fun z => (by rw [← hn9]; exact p_37 (by omega))) (fun z => (p_38 (by omega))) pk3 (fun z => by omega) (fun z => by omega)
  refine to_popi (pc := 509) rw_0_509 (to_go (pc := 510) rw_0_510 ?_)
  have c_46 : M39.2.1 77 7 = (M.2.1 77 7) := (F_n F32 (show ¬ (77 = 77 ∧ (7 = 2 ∨ 7 = 28) ∨ 77 = 99 ∨ 77 = 100) by decide) (F_n F11 (show ¬ (77 = 0 ∧ 7 = 12 ∨ 18 ≤ 77 ∧ 77 ≤ 27) by decide) rfl))
  have t_47 : (M39.2.1 77 7).toInt = (M.2.1 77 7).toInt := congrArg Int32.toInt c_46
  have c_48 : M39.2.1 77 6 = (M.2.1 77 6) := (F_n F32 (show ¬ (77 = 77 ∧ (6 = 2 ∨ 6 = 28) ∨ 77 = 99 ∨ 77 = 100) by decide) (F_n F11 (show ¬ (77 = 0 ∧ 6 = 12 ∨ 18 ≤ 77 ∧ 77 ≤ 27) by decide) rfl))
  have t_49 : (M39.2.1 77 6).toInt = (M.2.1 77 6).toInt := congrArg Int32.toInt c_48
  have c_50 : M39.2.1 1 1 = (M.2.1 1 1) := (F_n F32 (show ¬ (1 = 77 ∧ (1 = 2 ∨ 1 = 28) ∨ 1 = 99 ∨ 1 = 100) by decide) (F_n F11 (show ¬ (1 = 0 ∧ 1 = 12 ∨ 18 ≤ 1 ∧ 1 ≤ 27) by decide) rfl))
  have t_51 : (M39.2.1 1 1).toInt = (M.2.1 1 1).toInt := congrArg Int32.toInt c_50
  have c_52 : M39.2.1 77 1 = (M.2.1 77 1) := (F_n F32 (show ¬ (77 = 77 ∧ (1 = 2 ∨ 1 = 28) ∨ 77 = 99 ∨ 77 = 100) by decide) (F_n F11 (show ¬ (77 = 0 ∧ 1 = 12 ∨ 18 ≤ 77 ∧ 77 ≤ 27) by decide) rfl))
  have t_53 : (M39.2.1 77 1).toInt = (M.2.1 77 1).toInt := congrArg Int32.toInt c_52
  have c_54 : M39.2.1 17 4 = (M.2.1 17 4) := (F_n F32 (show ¬ (17 = 77 ∧ (4 = 2 ∨ 4 = 28) ∨ 17 = 99 ∨ 17 = 100) by decide) (F_n F11 (show ¬ (17 = 0 ∧ 4 = 12 ∨ 18 ≤ 17 ∧ 17 ≤ 27) by decide) rfl))
  have t_55 : (M39.2.1 17 4).toInt = (M.2.1 17 4).toInt := congrArg Int32.toInt c_54
  have c_56 : M39.2.1 77 41 = (M.2.1 77 41) := (F_n F32 (show ¬ (77 = 77 ∧ (41 = 2 ∨ 41 = 28) ∨ 77 = 99 ∨ 77 = 100) by decide) c_27)
  have t_57 : (M39.2.1 77 41).toInt = (M.2.1 77 41).toInt := congrArg Int32.toInt c_56
  have c_58 : M39.2.1 6 0 = (M.2.1 6 0) := (F_n F32 (show ¬ (6 = 77 ∧ (0 = 2 ∨ 0 = 28) ∨ 6 = 99 ∨ 6 = 100) by decide) (F_n F11 (show ¬ (6 = 0 ∧ 0 = 12 ∨ 18 ≤ 6 ∧ 6 ≤ 27) by decide) rfl))
  have t_59 : (M39.2.1 6 0).toInt = (M.2.1 6 0).toInt := congrArg Int32.toInt c_58
  have c_60 : M39.2.1 77 29 = (M.2.1 77 29) := (F_n F32 (show ¬ (77 = 77 ∧ (29 = 2 ∨ 29 = 28) ∨ 77 = 99 ∨ 77 = 100) by decide) (F_n F11 (show ¬ (77 = 0 ∧ 29 = 12 ∨ 18 ≤ 77 ∧ 77 ≤ 27) by decide) rfl))
  have t_61 : (M39.2.1 77 29).toInt = (M.2.1 77 29).toInt := congrArg Int32.toInt c_60
  have j_62 := (PI_f (tg_585 F32) p_15)
  have j_63 := (NI_f (tg_586 F32) p_16)
  have j_64 := (QI_f (tg_587 F32) p_17)
  have j_65 := (PQE_r F32.2.1 (PQE_r F11.2.1 jPQE))
  have j_66 := (FA_f (tg_588 F32) (FA_f (tg_589 F11) jFA))
  have j_67 := (WC_f (tg_590 F32) (WC_f (tg_591 F11) jWC))
  have j_68 := (NJ_f (tg_592 F32) (NJ_f (tg_593 F11) jNJ))
  have j_69 := (KQ_f (tg_594 F32) (KQ_f (tg_595 F11) jKQ))
  have j_70 := (TP_f (tg_596 F32) (TP_f (tg_597 F11) jTP))
  have j_71 := (W9_f (tg_598 F32) (W9_f (tg_599 F11) jW9))
  have j_72 := (AN_F F32 tg_630 z_24)
  have j_73 := (G8_F F32 (fun a i z => show ¬ (a = 77 ∧ (i = 2 ∨ i = 28) ∨ a = 99 ∨ a = 100) by omega) (G8_F F11 (fun a i z => show ¬ (a = 0 ∧ i = 12 ∨ 18 ≤ a ∧ a ≤ 27) by omega) jG8))
  have j_74 := (NE_r F32.2.1 (NE_r F11.2.1 jNE))
  have j_75 := (W8_f (tg_600 F32) (W8_f (tg_601 F11) jW8))
  exact h M39 (u5) (u6) ⟨⟨⟨⟨⟨⟨⟨⟨⟨hG33, ⟨j_62, j_63, j_64, j_65⟩, ⟨j_66, j_67, j_68, p_36, j_69⟩, by omega, by omega⟩, j_70, j_71⟩, j_74, by omega⟩, AN_a j_72⟩, by omega⟩, j_75⟩, by omega⟩, j_72⟩, j_73, z_45⟩ (by omega) (by omega)
set_option maxRecDepth 4000 in
set_option maxHeartbeats 0 in
theorem LW_10 {X : mm_X} {d L : Nat} {M : mm_M} {Q : Option Value → mm_M → Prop} {i : Int32} {u5 u6 : Value} (hX : g_X X) (hW : g_W X) (hW2 : g_W2 X) (hL : (X 0).1 = L) (h3 : L ≤ 3072) (hd : 40 ≤ d) (hi : 0 ≤ i.toInt) (hi2 : i.toInt + 6 ≤ (L : Int)) (H : LI10 M) (h : ∀ (M1 : mm_M) (v5 v6 : Value), LI10 M1 → M1.1.2.1 ≤ M.1.2.1 + 1 → M1.1.2.2.1 ≤ M.1.2.2.1 + 6 → mm_T X d 0 1313 [.ref mm_ext, .ref 0, .ref 77, .ref 125, .int i, v5, v6] [] M1 Q) : mm_T X d 0 513 [.ref mm_ext, .ref 0, .ref 77, .ref 125, .int i, u5, u6] [] M Q := by
  obtain ⟨⟨⟨⟨⟨⟨⟨⟨⟨hG, ⟨jPI, jNI, jQI, jPQE⟩, ⟨jFA, jWC, jNJ, jPS, jKQ⟩, jJ, jE⟩, jTP, jW9⟩, jNE, jCC⟩, -⟩, jOV⟩, jW8⟩, jNN⟩, jAN⟩, jG8, jPKA⟩ := H
  have b_1 := g_b hG (a := 77) (i := 7) (lo := 0) (hi := 500) rfl rfl
  have b_2 := g_b hG (a := 77) (i := 6) (lo := 0) (hi := 500) rfl rfl
  have b_3 := g_b hG (a := 1) (i := 1) (lo := 0) (hi := 500) rfl rfl
  have b_4 := g_b hG (a := 77) (i := 1) (lo := 0) (hi := 500) rfl rfl
  have b_5 := g_b hG (a := 0) (i := 12) (lo := 0) (hi := 30) rfl rfl
  have b_6 := g_b hG (a := 77) (i := 28) (lo := 0) (hi := 30) rfl rfl
  have b_7 := g_b hG (a := 6) (i := 0) (lo := 0) (hi := 150) rfl rfl
  have b_8 := g_b hG (a := 77) (i := 29) (lo := 0) (hi := 150) rfl rfl
  refine to_an (pc := 513) rw_0_513 rfl (to_an (pc := 514) rw_0_514 rfl (to_i (pc := 515) rw_0_515 rfl (to_c (pc := 517) rw_0_517 (x := (1 : Int32)) rfl rfl (s_add (pc := 518) rw_0_518 (A := i.toInt) (B := 1) rfl rfl (by omega) (fun v9 e10 => s_x0 (pc := 519) rw_0_519 hL (A := v9.toInt) rfl (by omega) (by omega) (fun v11 e12 => to_an (pc := 520) rw_0_520 rfl (to_i (pc := 521) rw_0_521 rfl (to_c (pc := 523) rw_0_523 (x := (2 : Int32)) rfl rfl (s_add (pc := 524) rw_0_524 (A := i.toInt) (B := 2) rfl rfl (by omega) (fun v13 e14 => s_x0 (pc := 525) rw_0_525 hL (A := v13.toInt) rfl (by omega) (by omega) (fun v15 e16 => to_an (pc := 526) rw_0_526 rfl ?_)))))))))))
  refine to_i (pc := 527) rw_0_527 rfl (to_c (pc := 529) rw_0_529 (x := (3 : Int32)) rfl rfl (s_add (pc := 530) rw_0_530 (A := i.toInt) (B := 3) rfl rfl (by omega) (fun v17 e18 => s_x0 (pc := 531) rw_0_531 hL (A := v17.toInt) rfl (by omega) (by omega) (fun v19 e20 => s_v (pc := 532) rw_0_532 (dp0 hd (by decide)) (ls0 := [.ref 0, .int v11, .int v15, .int v19]) rfl (Nat.le_of_ble_eq_true rfl) (Nat.le_of_ble_eq_true rfl) rfl (to_rc rfl rfl rfl (g_o hG rfl)) rfl ?_))))
  obtain ⟨pz21, pzz21, qz21, qzz21, hpz21, hpzz21, hqz21, hqzz21, hpqz21⟩ := id jPQE
  obtain ⟨sg, NN, nz, ca, hs1, hs2, hn1, hn2, hn3, hn4, hn5⟩ := AN_u jAN hpqz21
  refine E_119 hX (dp1 hd (by decide)) hG hpz21 hpzz21 hqz21 hqzz21 hpqz21 jNI jPI jQI hs1.1 (c := v11) (f := v15) (v := v19) (sg := sg) (p := pz21) (pz := pzz21) (q := qz21) (qz := qzz21) (fun r22 M31 hG24 F23 p_25 p_26 p_27 p_28 p_29 p_30 => ?_)
  have n_32 : M31.1.2.1 = M.1.2.1 ∧ M31.1.2.2.1 = M.1.2.2.1 := by rw [F23.1]; exact ⟨rfl, rfl⟩
  have b_34 := g_b hG24 (a := 6) (i := 0) (lo := 0) (hi := 150) rfl rfl
  have k_35 : (0 : Int32).toInt = 0 := rfl
  have k_36 : (1 : Int32).toInt = 1 := rfl
  have k_37 : (2 : Int32).toInt = 2 := rfl
  have k_38 : (3 : Int32).toInt = 3 := rfl
  have k_39 : (4 : Int32).toInt = 4 := rfl
  have k_40 : (5 : Int32).toInt = 5 := rfl
  have z_41 := G8_n jG8 hpz21 hpqz21 hs1 hn1 hn3 hn4 F23 (fun a i z => show ¬ (6 ≤ a ∧ a ≤ 10) by omega) p_30 (by omega) (fun z9 => ⟨fun z => by omega, fun z => by omega, fun z => by omega, fun z => by omega, fun z => by omega⟩) (fun z9 z => by omega)
  have c_42 : M31.2.1 77 29 = (M.2.1 77 29) := (F_n F23 (show ¬ (6 ≤ 77 ∧ 77 ≤ 10) by decide) rfl)
  have t_43 : (M31.2.1 77 29).toInt = (M.2.1 77 29).toInt := congrArg Int32.toInt c_42
  refine to_popi (pc := 535) rw_0_535 (to_an (pc := 536) rw_0_536 rfl (to_an (pc := 537) rw_0_537 rfl (to_i (pc := 538) rw_0_538 rfl (to_c (pc := 540) rw_0_540 (x := (1 : Int32)) rfl rfl (s_addk (pc := 541) rw_0_541 (A := i.toInt) (B := 1) rfl rfl (by omega) (v := v9) e10 (s_x0k (pc := 542) rw_0_542 hL (A := v9.toInt) rfl (by omega) (by omega) (v := v11) e12 (to_an (pc := 543) rw_0_543 rfl (to_i (pc := 544) rw_0_544 rfl (to_c (pc := 546) rw_0_546 (x := (2 : Int32)) rfl rfl (s_addk (pc := 547) rw_0_547 (A := i.toInt) (B := 2) rfl rfl (by omega) (v := v13) e14 (s_x0k (pc := 548) rw_0_548 hL (A := v13.toInt) rfl (by omega) (by omega) (v := v15) e16 ?_)))))))))))
  refine to_an (pc := 549) rw_0_549 rfl (to_i (pc := 550) rw_0_550 rfl (to_c (pc := 552) rw_0_552 (x := (3 : Int32)) rfl rfl (s_addk (pc := 553) rw_0_553 (A := i.toInt) (B := 3) rfl rfl (by omega) (v := v17) e18 (s_x0k (pc := 554) rw_0_554 hL (A := v17.toInt) rfl (by omega) (by omega) (v := v19) e20 (s_v (pc := 555) rw_0_555 (dp0 hd (by decide)) (ls0 := [.ref 77, .int v11, .int v15, .int v19]) rfl (Nat.le_of_ble_eq_true rfl) (Nat.le_of_ble_eq_true rfl) rfl (to_rc rfl rfl rfl (g_o hG24 rfl)) rfl ?_)))))
  have c_50 : M31.2.1 77 28 = (M.2.1 77 28) := (F_n F23 (show ¬ (6 ≤ 77 ∧ 77 ≤ 10) by decide) rfl)
  have t_51 : (M31.2.1 77 28).toInt = (M.2.1 77 28).toInt := congrArg Int32.toInt c_50
  have j_52 := (NJ_f (tg_602 F23) jNJ)
  have j_53 := (FA_f (tg_603 F23) jFA)
  have j_54 := (PLk_f (tg_604 F23) hs2.1)
  refine E_194 hX (dp1 hd (by decide)) hG24 j_52 j_53 j_54 (c := v11) (f := v15) (v := v19) (sg := sg) (fun r55 M62 hG57 F56 p_58 p_59 p_60 p_61 => ?_)
  have n_63 : M62.1.2.1 = M31.1.2.1 ∧ M62.1.2.2.1 = M31.1.2.2.1 := by rw [F56.1]; exact ⟨rfl, rfl⟩
  have b_65 := g_b hG57 (a := 77) (i := 29) (lo := 0) (hi := 150) rfl rfl
  have z_66 := AN_n hpz21 hpqz21 hs1 hs2 hn1 hn2 hn3 hn4 hn5 F23 (fun a i z => show ¬ (6 ≤ a ∧ a ≤ 10) by omega) F56 (fun a i z => show ¬ (a = 77 ∧ (i = 2 ∨ i = 29) ∨ 90 ≤ a ∧ a ≤ 93) by omega) p_30 p_61 (by omega) (by omega) (by omega) (by omega) (fun z9 => ⟨fun z => by omega, fun z => by omega, fun z => by omega, fun z => by omega, fun z => by omega⟩)
  refine to_popi (pc := 558) rw_0_558 (to_go (pc := 559) rw_0_559 ?_)
  have c_67 : M62.2.1 77 7 = (M.2.1 77 7) := (F_n F56 (show ¬ (77 = 77 ∧ (7 = 2 ∨ 7 = 29) ∨ 90 ≤ 77 ∧ 77 ≤ 93) by decide) (F_n F23 (show ¬ (6 ≤ 77 ∧ 77 ≤ 10) by decide) rfl))
  have t_68 : (M62.2.1 77 7).toInt = (M.2.1 77 7).toInt := congrArg Int32.toInt c_67
  have c_69 : M62.2.1 77 6 = (M.2.1 77 6) := (F_n F56 (show ¬ (77 = 77 ∧ (6 = 2 ∨ 6 = 29) ∨ 90 ≤ 77 ∧ 77 ≤ 93) by decide) (F_n F23 (show ¬ (6 ≤ 77 ∧ 77 ≤ 10) by decide) rfl))
  have t_70 : (M62.2.1 77 6).toInt = (M.2.1 77 6).toInt := congrArg Int32.toInt c_69
  have c_71 : M62.2.1 1 1 = (M.2.1 1 1) := (F_n F56 (show ¬ (1 = 77 ∧ (1 = 2 ∨ 1 = 29) ∨ 90 ≤ 1 ∧ 1 ≤ 93) by decide) (F_n F23 (show ¬ (6 ≤ 1 ∧ 1 ≤ 10) by decide) rfl))
  have t_72 : (M62.2.1 1 1).toInt = (M.2.1 1 1).toInt := congrArg Int32.toInt c_71
  have c_73 : M62.2.1 77 1 = (M.2.1 77 1) := (F_n F56 (show ¬ (77 = 77 ∧ (1 = 2 ∨ 1 = 29) ∨ 90 ≤ 77 ∧ 77 ≤ 93) by decide) (F_n F23 (show ¬ (6 ≤ 77 ∧ 77 ≤ 10) by decide) rfl))
  have t_74 : (M62.2.1 77 1).toInt = (M.2.1 77 1).toInt := congrArg Int32.toInt c_73
  have c_75 : M62.2.1 0 12 = (M.2.1 0 12) := (F_n F56 (show ¬ (0 = 77 ∧ (12 = 2 ∨ 12 = 29) ∨ 90 ≤ 0 ∧ 0 ≤ 93) by decide) (F_n F23 (show ¬ (6 ≤ 0 ∧ 0 ≤ 10) by decide) rfl))
  have t_76 : (M62.2.1 0 12).toInt = (M.2.1 0 12).toInt := congrArg Int32.toInt c_75
  have c_77 : M62.2.1 77 28 = (M.2.1 77 28) := (F_n F56 (show ¬ (77 = 77 ∧ (28 = 2 ∨ 28 = 29) ∨ 90 ≤ 77 ∧ 77 ≤ 93) by decide) c_50)
  have t_78 : (M62.2.1 77 28).toInt = (M.2.1 77 28).toInt := congrArg Int32.toInt c_77
  have c_79 : M62.2.1 17 4 = (M.2.1 17 4) := (F_n F56 (show ¬ (17 = 77 ∧ (4 = 2 ∨ 4 = 29) ∨ 90 ≤ 17 ∧ 17 ≤ 93) by decide) (F_n F23 (show ¬ (6 ≤ 17 ∧ 17 ≤ 10) by decide) rfl))
  have t_80 : (M62.2.1 17 4).toInt = (M.2.1 17 4).toInt := congrArg Int32.toInt c_79
  have c_81 : M62.2.1 77 41 = (M.2.1 77 41) := (F_n F56 (show ¬ (77 = 77 ∧ (41 = 2 ∨ 41 = 29) ∨ 90 ≤ 77 ∧ 77 ≤ 93) by decide) (F_n F23 (show ¬ (6 ≤ 77 ∧ 77 ≤ 10) by decide) rfl))
  have t_82 : (M62.2.1 77 41).toInt = (M.2.1 77 41).toInt := congrArg Int32.toInt c_81
  have c_83 : M62.2.1 6 0 = (M31.2.1 6 0) := (F_n F56 (show ¬ (6 = 77 ∧ (0 = 2 ∨ 0 = 29) ∨ 90 ≤ 6 ∧ 6 ≤ 93) by decide) rfl)
  have t_84 : (M62.2.1 6 0).toInt = (M31.2.1 6 0).toInt := congrArg Int32.toInt c_83
  have j_85 := (PI_f (tg_605 F56) p_26)
  have j_86 := (NI_f (tg_606 F56) p_25)
  have j_87 := (QI_f (tg_607 F56) p_27)
  have j_88 := (PQE_r F56.2.1 (PQE_r F23.2.1 jPQE))
  have j_89 := (FA_f (tg_608 F56) j_53)
  have j_90 := (WC_f (tg_609 F56) (WC_f (tg_610 F23) jWC))
  have j_91 := (PS_f (tg_611 F56) (PS_f (tg_612 F23) jPS))
  have j_92 := (KQ_f (tg_613 F56) (KQ_f (tg_614 F23) jKQ))
  have j_93 := (TP_f (tg_615 F56) (TP_f (tg_616 F23) jTP))
  have j_94 := (W9_f (tg_617 F56) (W9_f (tg_618 F23) jW9))
  have j_95 := (G8_F F56 (fun a i z => show ¬ (a = 77 ∧ (i = 2 ∨ i = 29) ∨ 90 ≤ a ∧ a ≤ 93) by omega) z_41)
  have j_96 := (PKA_F F56 (fun a i z => show ¬ (a = 77 ∧ (i = 2 ∨ i = 29) ∨ 90 ≤ a ∧ a ≤ 93) by omega) (PKA_F F23 (fun a i z => show ¬ (6 ≤ a ∧ a ≤ 10) by omega) jPKA))
  have j_97 := (NE_r F56.2.1 (NE_r F23.2.1 jNE))
  have j_98 := (W8_f (tg_619 F56) (W8_f (tg_620 F23) jW8))
  exact h M62 (u5) (u6) ⟨⟨⟨⟨⟨⟨⟨⟨⟨hG57, ⟨j_85, j_86, j_87, j_88⟩, ⟨j_89, j_90, p_58, j_91, j_92⟩, by omega, by omega⟩, j_93, j_94⟩, j_97, by omega⟩, AN_a z_66⟩, by omega⟩, j_98⟩, by omega⟩, z_66⟩, j_95, j_96⟩ (by omega) (by omega)
set_option maxRecDepth 4000 in
set_option maxHeartbeats 0 in
theorem LW_11 {X : mm_X} {d L : Nat} {M : mm_M} {Q : Option Value → mm_M → Prop} {i : Int32} {u5 u6 : Value} (hX : g_X X) (hW : g_W X) (hW2 : g_W2 X) (hL : (X 0).1 = L) (h3 : L ≤ 3072) (hd : 40 ≤ d) (hi : 0 ≤ i.toInt) (hi2 : i.toInt + 6 ≤ (L : Int)) (H : LI10 M) (h : ∀ (M1 : mm_M) (v5 v6 : Value), LI10 M1 → M1.1.2.1 ≤ M.1.2.1 + 1 → M1.1.2.2.1 ≤ M.1.2.2.1 + 6 → mm_T X d 0 1313 [.ref mm_ext, .ref 0, .ref 77, .ref 125, .int i, v5, v6] [] M1 Q) : mm_T X d 0 562 [.ref mm_ext, .ref 0, .ref 77, .ref 125, .int i, u5, u6] [] M Q := by
  obtain ⟨⟨⟨⟨⟨⟨⟨⟨⟨hG, ⟨jPI, jNI, jQI, jPQE⟩, ⟨jFA, jWC, jNJ, jPS, jKQ⟩, jJ, jE⟩, jTP, jW9⟩, jNE, jCC⟩, -⟩, jOV⟩, jW8⟩, jNN⟩, jAN⟩, jG8, jPKA⟩ := H
  have b_1 := g_b hG (a := 77) (i := 7) (lo := 0) (hi := 500) rfl rfl
  have b_2 := g_b hG (a := 77) (i := 6) (lo := 0) (hi := 500) rfl rfl
  have b_3 := g_b hG (a := 1) (i := 1) (lo := 0) (hi := 500) rfl rfl
  have b_4 := g_b hG (a := 77) (i := 1) (lo := 0) (hi := 500) rfl rfl
  have b_5 := g_b hG (a := 0) (i := 12) (lo := 0) (hi := 30) rfl rfl
  have b_6 := g_b hG (a := 77) (i := 28) (lo := 0) (hi := 30) rfl rfl
  have b_7 := g_b hG (a := 6) (i := 0) (lo := 0) (hi := 150) rfl rfl
  have b_8 := g_b hG (a := 77) (i := 29) (lo := 0) (hi := 150) rfl rfl
  refine to_an (pc := 562) rw_0_562 rfl (to_an (pc := 563) rw_0_563 rfl (to_i (pc := 564) rw_0_564 rfl (to_c (pc := 566) rw_0_566 (x := (1 : Int32)) rfl rfl (s_add (pc := 567) rw_0_567 (A := i.toInt) (B := 1) rfl rfl (by omega) (fun v9 e10 => s_x0 (pc := 568) rw_0_568 hL (A := v9.toInt) rfl (by omega) (by omega) (fun v11 e12 => to_an (pc := 569) rw_0_569 rfl (to_i (pc := 570) rw_0_570 rfl (to_c (pc := 572) rw_0_572 (x := (2 : Int32)) rfl rfl (s_add (pc := 573) rw_0_573 (A := i.toInt) (B := 2) rfl rfl (by omega) (fun v13 e14 => s_x0 (pc := 574) rw_0_574 hL (A := v13.toInt) rfl (by omega) (by omega) (fun v15 e16 => s_v (pc := 575) rw_0_575 (dp0 hd (by decide)) (ls0 := [.ref 0, .int v11, .int v15]) rfl (Nat.le_of_ble_eq_true rfl) (Nat.le_of_ble_eq_true rfl) rfl (to_rc rfl rfl rfl (g_o hG rfl)) rfl ?_)))))))))))
  obtain ⟨pz17, pzz17, qz17, qzz17, hpz17, hpzz17, hqz17, hqzz17, hpqz17⟩ := id jPQE
  obtain ⟨sg, NN, nz, ca, hs1, hs2, hn1, hn2, hn3, hn4, hn5⟩ := AN_u jAN hpqz17
  refine E_120 hX (dp1 hd (by decide)) hG hpz17 hpzz17 hqz17 hqzz17 hpqz17 jNI jPI jQI hs1.1 (c := v11) (w := v15) (sg := sg) (p := pz17) (pz := pzz17) (q := qz17) (qz := qzz17) (fun r18 M27 hG20 F19 p_21 p_22 p_23 p_24 p_25 p_26 => ?_)
  have n_28 : M27.1.2.1 = M.1.2.1 ∧ M27.1.2.2.1 = M.1.2.2.1 := by rw [F19.1]; exact ⟨rfl, rfl⟩
  have b_30 := g_b hG20 (a := 6) (i := 0) (lo := 0) (hi := 150) rfl rfl
  have k_31 : (0 : Int32).toInt = 0 := rfl
  have k_32 : (1 : Int32).toInt = 1 := rfl
  have k_33 : (2 : Int32).toInt = 2 := rfl
  have k_34 : (3 : Int32).toInt = 3 := rfl
  have k_35 : (4 : Int32).toInt = 4 := rfl
  have k_36 : (5 : Int32).toInt = 5 := rfl
  have z_37 := G8_n jG8 hpz17 hpqz17 hs1 hn1 hn3 hn4 F19 (fun a i z => show ¬ (6 ≤ a ∧ a ≤ 10) by omega) p_26 (by omega) (fun z9 => ⟨fun z => by omega, fun z => by omega, fun z => by omega, fun z => by omega, fun z => by omega⟩) (fun z9 z => by omega)
  have c_38 : M27.2.1 77 29 = (M.2.1 77 29) := (F_n F19 (show ¬ (6 ≤ 77 ∧ 77 ≤ 10) by decide) rfl)
  have t_39 : (M27.2.1 77 29).toInt = (M.2.1 77 29).toInt := congrArg Int32.toInt c_38
  refine to_popi (pc := 578) rw_0_578 (to_an (pc := 579) rw_0_579 rfl (to_an (pc := 580) rw_0_580 rfl (to_i (pc := 581) rw_0_581 rfl (to_c (pc := 583) rw_0_583 (x := (1 : Int32)) rfl rfl (s_addk (pc := 584) rw_0_584 (A := i.toInt) (B := 1) rfl rfl (by omega) (v := v9) e10 (s_x0k (pc := 585) rw_0_585 hL (A := v9.toInt) rfl (by omega) (by omega) (v := v11) e12 (to_an (pc := 586) rw_0_586 rfl (to_i (pc := 587) rw_0_587 rfl (to_c (pc := 589) rw_0_589 (x := (2 : Int32)) rfl rfl (s_addk (pc := 590) rw_0_590 (A := i.toInt) (B := 2) rfl rfl (by omega) (v := v13) e14 (s_x0k (pc := 591) rw_0_591 hL (A := v13.toInt) rfl (by omega) (by omega) (v := v15) e16 ?_)))))))))))
  refine s_v (pc := 592) rw_0_592 (dp0 hd (by decide)) (ls0 := [.ref 77, .int v11, .int v15]) rfl (Nat.le_of_ble_eq_true rfl) (Nat.le_of_ble_eq_true rfl) rfl (to_rc rfl rfl rfl (g_o hG20 rfl)) rfl ?_
  have c_44 : M27.2.1 77 28 = (M.2.1 77 28) := (F_n F19 (show ¬ (6 ≤ 77 ∧ 77 ≤ 10) by decide) rfl)
  have t_45 : (M27.2.1 77 28).toInt = (M.2.1 77 28).toInt := congrArg Int32.toInt c_44
  have j_46 := (NJ_f (tg_602 F19) jNJ)
  have j_47 := (PLk_f (tg_604 F19) hs2.1)
  refine E_195 hX (dp1 hd (by decide)) hG20 j_46 j_47 (c := v11) (w := v15) (sg := sg) (fun r48 M55 hG50 F49 p_51 p_52 p_53 p_54 => ?_)
  have n_56 : M55.1.2.1 = M27.1.2.1 ∧ M55.1.2.2.1 = M27.1.2.2.1 := by rw [F49.1]; exact ⟨rfl, rfl⟩
  have b_58 := g_b hG50 (a := 77) (i := 29) (lo := 0) (hi := 150) rfl rfl
  have z_59 := AN_n hpz17 hpqz17 hs1 hs2 hn1 hn2 hn3 hn4 hn5 F19 (fun a i z => show ¬ (6 ≤ a ∧ a ≤ 10) by omega) F49 (fun a i z => show ¬ (a = 77 ∧ (i = 2 ∨ i = 29) ∨ 90 ≤ a ∧ a ≤ 93) by omega) p_26 p_54 (by omega) (by omega) (by omega) (by omega) (fun z9 => ⟨fun z => by omega, fun z => by omega, fun z => by omega, fun z => by omega, fun z => by omega⟩)
  refine to_popi (pc := 595) rw_0_595 (to_go (pc := 596) rw_0_596 ?_)
  have c_60 : M55.2.1 77 7 = (M.2.1 77 7) := (F_n F49 (show ¬ (77 = 77 ∧ (7 = 2 ∨ 7 = 29) ∨ 90 ≤ 77 ∧ 77 ≤ 93) by decide) (F_n F19 (show ¬ (6 ≤ 77 ∧ 77 ≤ 10) by decide) rfl))
  have t_61 : (M55.2.1 77 7).toInt = (M.2.1 77 7).toInt := congrArg Int32.toInt c_60
  have c_62 : M55.2.1 77 6 = (M.2.1 77 6) := (F_n F49 (show ¬ (77 = 77 ∧ (6 = 2 ∨ 6 = 29) ∨ 90 ≤ 77 ∧ 77 ≤ 93) by decide) (F_n F19 (show ¬ (6 ≤ 77 ∧ 77 ≤ 10) by decide) rfl))
  have t_63 : (M55.2.1 77 6).toInt = (M.2.1 77 6).toInt := congrArg Int32.toInt c_62
  have c_64 : M55.2.1 1 1 = (M.2.1 1 1) := (F_n F49 (show ¬ (1 = 77 ∧ (1 = 2 ∨ 1 = 29) ∨ 90 ≤ 1 ∧ 1 ≤ 93) by decide) (F_n F19 (show ¬ (6 ≤ 1 ∧ 1 ≤ 10) by decide) rfl))
  have t_65 : (M55.2.1 1 1).toInt = (M.2.1 1 1).toInt := congrArg Int32.toInt c_64
  have c_66 : M55.2.1 77 1 = (M.2.1 77 1) := (F_n F49 (show ¬ (77 = 77 ∧ (1 = 2 ∨ 1 = 29) ∨ 90 ≤ 77 ∧ 77 ≤ 93) by decide) (F_n F19 (show ¬ (6 ≤ 77 ∧ 77 ≤ 10) by decide) rfl))
  have t_67 : (M55.2.1 77 1).toInt = (M.2.1 77 1).toInt := congrArg Int32.toInt c_66
  have c_68 : M55.2.1 0 12 = (M.2.1 0 12) := (F_n F49 (show ¬ (0 = 77 ∧ (12 = 2 ∨ 12 = 29) ∨ 90 ≤ 0 ∧ 0 ≤ 93) by decide) (F_n F19 (show ¬ (6 ≤ 0 ∧ 0 ≤ 10) by decide) rfl))
  have t_69 : (M55.2.1 0 12).toInt = (M.2.1 0 12).toInt := congrArg Int32.toInt c_68
  have c_70 : M55.2.1 77 28 = (M.2.1 77 28) := (F_n F49 (show ¬ (77 = 77 ∧ (28 = 2 ∨ 28 = 29) ∨ 90 ≤ 77 ∧ 77 ≤ 93) by decide) c_44)
  have t_71 : (M55.2.1 77 28).toInt = (M.2.1 77 28).toInt := congrArg Int32.toInt c_70
  have c_72 : M55.2.1 17 4 = (M.2.1 17 4) := (F_n F49 (show ¬ (17 = 77 ∧ (4 = 2 ∨ 4 = 29) ∨ 90 ≤ 17 ∧ 17 ≤ 93) by decide) (F_n F19 (show ¬ (6 ≤ 17 ∧ 17 ≤ 10) by decide) rfl))
  have t_73 : (M55.2.1 17 4).toInt = (M.2.1 17 4).toInt := congrArg Int32.toInt c_72
  have c_74 : M55.2.1 77 41 = (M.2.1 77 41) := (F_n F49 (show ¬ (77 = 77 ∧ (41 = 2 ∨ 41 = 29) ∨ 90 ≤ 77 ∧ 77 ≤ 93) by decide) (F_n F19 (show ¬ (6 ≤ 77 ∧ 77 ≤ 10) by decide) rfl))
  have t_75 : (M55.2.1 77 41).toInt = (M.2.1 77 41).toInt := congrArg Int32.toInt c_74
  have c_76 : M55.2.1 6 0 = (M27.2.1 6 0) := (F_n F49 (show ¬ (6 = 77 ∧ (0 = 2 ∨ 0 = 29) ∨ 90 ≤ 6 ∧ 6 ≤ 93) by decide) rfl)
  have t_77 : (M55.2.1 6 0).toInt = (M27.2.1 6 0).toInt := congrArg Int32.toInt c_76
  have j_78 := (PI_f (tg_605 F49) p_22)
  have j_79 := (NI_f (tg_606 F49) p_21)
  have j_80 := (QI_f (tg_607 F49) p_23)
  have j_81 := (PQE_r F49.2.1 (PQE_r F19.2.1 jPQE))
  have j_82 := (FA_f (tg_608 F49) (FA_f (tg_603 F19) jFA))
  have j_83 := (WC_f (tg_609 F49) (WC_f (tg_610 F19) jWC))
  have j_84 := (PS_f (tg_611 F49) (PS_f (tg_612 F19) jPS))
  have j_85 := (KQ_f (tg_613 F49) (KQ_f (tg_614 F19) jKQ))
  have j_86 := (TP_f (tg_615 F49) (TP_f (tg_616 F19) jTP))
  have j_87 := (W9_f (tg_617 F49) (W9_f (tg_618 F19) jW9))
  have j_88 := (G8_F F49 (fun a i z => show ¬ (a = 77 ∧ (i = 2 ∨ i = 29) ∨ 90 ≤ a ∧ a ≤ 93) by omega) z_37)
  have j_89 := (PKA_F F49 (fun a i z => show ¬ (a = 77 ∧ (i = 2 ∨ i = 29) ∨ 90 ≤ a ∧ a ≤ 93) by omega) (PKA_F F19 (fun a i z => show ¬ (6 ≤ a ∧ a ≤ 10) by omega) jPKA))
  have j_90 := (NE_r F49.2.1 (NE_r F19.2.1 jNE))
  have j_91 := (W8_f (tg_619 F49) (W8_f (tg_620 F19) jW8))
  exact h M55 (u5) (u6) ⟨⟨⟨⟨⟨⟨⟨⟨⟨hG50, ⟨j_78, j_79, j_80, j_81⟩, ⟨j_82, j_83, p_51, j_84, j_85⟩, by omega, by omega⟩, j_86, j_87⟩, j_90, by omega⟩, AN_a z_59⟩, by omega⟩, j_91⟩, by omega⟩, z_59⟩, j_88, j_89⟩ (by omega) (by omega)
set_option maxRecDepth 4000 in
set_option maxHeartbeats 0 in
theorem LW_12 {X : mm_X} {d L : Nat} {M : mm_M} {Q : Option Value → mm_M → Prop} {i : Int32} {u5 u6 : Value} (hX : g_X X) (hW : g_W X) (hW2 : g_W2 X) (hL : (X 0).1 = L) (h3 : L ≤ 3072) (hd : 40 ≤ d) (hi : 0 ≤ i.toInt) (hi2 : i.toInt + 6 ≤ (L : Int)) (H : LI10 M) (h : ∀ (M1 : mm_M) (v5 v6 : Value), LI10 M1 → M1.1.2.1 ≤ M.1.2.1 + 1 → M1.1.2.2.1 ≤ M.1.2.2.1 + 6 → mm_T X d 0 1313 [.ref mm_ext, .ref 0, .ref 77, .ref 125, .int i, v5, v6] [] M1 Q) : mm_T X d 0 599 [.ref mm_ext, .ref 0, .ref 77, .ref 125, .int i, u5, u6] [] M Q := by
  obtain ⟨⟨⟨⟨⟨⟨⟨⟨⟨hG, ⟨jPI, jNI, jQI, jPQE⟩, ⟨jFA, jWC, jNJ, jPS, jKQ⟩, jJ, jE⟩, jTP, jW9⟩, jNE, jCC⟩, -⟩, jOV⟩, jW8⟩, jNN⟩, jAN⟩, jG8, jPKA⟩ := H
  have b_1 := g_b hG (a := 77) (i := 7) (lo := 0) (hi := 500) rfl rfl
  have b_2 := g_b hG (a := 77) (i := 6) (lo := 0) (hi := 500) rfl rfl
  have b_3 := g_b hG (a := 1) (i := 1) (lo := 0) (hi := 500) rfl rfl
  have b_4 := g_b hG (a := 77) (i := 1) (lo := 0) (hi := 500) rfl rfl
  have b_5 := g_b hG (a := 0) (i := 12) (lo := 0) (hi := 30) rfl rfl
  have b_6 := g_b hG (a := 77) (i := 28) (lo := 0) (hi := 30) rfl rfl
  have b_7 := g_b hG (a := 6) (i := 0) (lo := 0) (hi := 150) rfl rfl
  have b_8 := g_b hG (a := 77) (i := 29) (lo := 0) (hi := 150) rfl rfl
  refine to_an (pc := 599) rw_0_599 rfl (to_an (pc := 600) rw_0_600 rfl (to_i (pc := 601) rw_0_601 rfl (to_c (pc := 603) rw_0_603 (x := (1 : Int32)) rfl rfl (s_add (pc := 604) rw_0_604 (A := i.toInt) (B := 1) rfl rfl (by omega) (fun v9 e10 => s_x0 (pc := 605) rw_0_605 hL (A := v9.toInt) rfl (by omega) (by omega) (fun v11 e12 => to_an (pc := 606) rw_0_606 rfl (to_i (pc := 607) rw_0_607 rfl (to_c (pc := 609) rw_0_609 (x := (2 : Int32)) rfl rfl (s_add (pc := 610) rw_0_610 (A := i.toInt) (B := 2) rfl rfl (by omega) (fun v13 e14 => s_x0 (pc := 611) rw_0_611 hL (A := v13.toInt) rfl (by omega) (by omega) (fun v15 e16 => to_an (pc := 612) rw_0_612 rfl ?_)))))))))))
  refine to_i (pc := 613) rw_0_613 rfl (to_c (pc := 615) rw_0_615 (x := (3 : Int32)) rfl rfl (s_add (pc := 616) rw_0_616 (A := i.toInt) (B := 3) rfl rfl (by omega) (fun v17 e18 => s_x0 (pc := 617) rw_0_617 hL (A := v17.toInt) rfl (by omega) (by omega) (fun v19 e20 => b_ieq (pc := 618) rw_0_618 (A := v19.toInt) rfl (fun h21 => ?_) (fun h21 => ?_)))))
  · refine to_c (pc := 625) rw_0_625 (x := (0 : Int32)) rfl rfl (s_v (pc := 626) rw_0_626 (dp0 hd (by decide)) (ls0 := [.ref 0, .int v11, .int v15, .int (0 : Int32)]) rfl (Nat.le_of_ble_eq_true rfl) (Nat.le_of_ble_eq_true rfl) rfl (to_rc rfl rfl rfl (g_o hG rfl)) rfl ?_)
    have k_22 : (0 : Int32).toInt = 0 := rfl
    obtain ⟨pz23, pzz23, qz23, qzz23, hpz23, hpzz23, hqz23, hqzz23, hpqz23⟩ := id jPQE
    obtain ⟨sg, NN, nz, ca, hs1, hs2, hn1, hn2, hn3, hn4, hn5⟩ := AN_u jAN hpqz23
    refine E_121 hX (dp1 hd (by decide)) hG hpz23 hpzz23 hqz23 hqzz23 hpqz23 (by omega) (by omega) jNI jPI jQI hs1.1 (c := v11) (e := v15) (m := (0 : Int32)) (sg := sg) (p := pz23) (pz := pzz23) (q := qz23) (qz := qzz23) (fun r24 M33 hG26 F25 p_27 p_28 p_29 p_30 p_31 p_32 => ?_)
    have n_34 : M33.1.2.1 = M.1.2.1 ∧ M33.1.2.2.1 = M.1.2.2.1 := by rw [F25.1]; exact ⟨rfl, rfl⟩
    have b_36 := g_b hG26 (a := 6) (i := 0) (lo := 0) (hi := 150) rfl rfl
    have k_37 : (1 : Int32).toInt = 1 := rfl
    have k_38 : (2 : Int32).toInt = 2 := rfl
    have k_39 : (3 : Int32).toInt = 3 := rfl
    have k_40 : (4 : Int32).toInt = 4 := rfl
    have k_41 : (5 : Int32).toInt = 5 := rfl
    have z_42 := x_tk_b (0 : Int32)
    have z_43 := G8_n jG8 hpz23 hpqz23 hs1 hn1 hn3 hn4 F25 (fun a i z => show ¬ (6 ≤ a ∧ a ≤ 10) by omega) p_32 (by omega) (fun z9 => ⟨fun z => by omega, fun z => by omega, fun z => by omega, fun z => by omega, fun z => by omega⟩) (fun z9 z => by omega)
    have c_44 : M33.2.1 77 29 = (M.2.1 77 29) := (F_n F25 (show ¬ (6 ≤ 77 ∧ 77 ≤ 10) by decide) rfl)
    have t_45 : (M33.2.1 77 29).toInt = (M.2.1 77 29).toInt := congrArg Int32.toInt c_44
    refine to_popi (pc := 629) rw_0_629 (to_an (pc := 630) rw_0_630 rfl (to_an (pc := 631) rw_0_631 rfl (to_i (pc := 632) rw_0_632 rfl (to_c (pc := 634) rw_0_634 (x := (1 : Int32)) rfl rfl (s_addk (pc := 635) rw_0_635 (A := i.toInt) (B := 1) rfl rfl (by omega) (v := v9) e10 (s_x0k (pc := 636) rw_0_636 hL (A := v9.toInt) rfl (by omega) (by omega) (v := v11) e12 (to_an (pc := 637) rw_0_637 rfl (to_i (pc := 638) rw_0_638 rfl (to_c (pc := 640) rw_0_640 (x := (2 : Int32)) rfl rfl (s_addk (pc := 641) rw_0_641 (A := i.toInt) (B := 2) rfl rfl (by omega) (v := v13) e14 (s_x0k (pc := 642) rw_0_642 hL (A := v13.toInt) rfl (by omega) (by omega) (v := v15) e16 ?_)))))))))))
    refine to_an (pc := 643) rw_0_643 rfl (to_i (pc := 644) rw_0_644 rfl (to_c (pc := 646) rw_0_646 (x := (3 : Int32)) rfl rfl (s_addk (pc := 647) rw_0_647 (A := i.toInt) (B := 3) rfl rfl (by omega) (v := v17) e18 (s_x0k (pc := 648) rw_0_648 hL (A := v17.toInt) rfl (by omega) (by omega) (v := v19) e20 (b_ieq_t (pc := 649) rw_0_649 (A := v19.toInt) rfl (by omega) (to_c (pc := 656) rw_0_656 (x := (0 : Int32)) rfl rfl (s_v (pc := 657) rw_0_657 (dp0 hd (by decide)) (ls0 := [.ref 77, .int v11, .int v15, .int (0 : Int32)]) rfl (Nat.le_of_ble_eq_true rfl) (Nat.le_of_ble_eq_true rfl) rfl (to_rc rfl rfl rfl (g_o hG26 rfl)) rfl ?_)))))))
    have c_52 : M33.2.1 77 28 = (M.2.1 77 28) := (F_n F25 (show ¬ (6 ≤ 77 ∧ 77 ≤ 10) by decide) rfl)
    have t_53 : (M33.2.1 77 28).toInt = (M.2.1 77 28).toInt := congrArg Int32.toInt c_52
    have j_54 := (NJ_f (tg_602 F25) jNJ)
    have j_55 := (PLk_f (tg_604 F25) hs2.1)
    refine E_196 hX (dp1 hd (by decide)) hG26 (by omega) (by omega) j_54 j_55 (c := v11) (e := v15) (m := (0 : Int32)) (sg := sg) (fun r56 M63 hG58 F57 p_59 p_60 p_61 p_62 => ?_)
    have n_64 : M63.1.2.1 = M33.1.2.1 ∧ M63.1.2.2.1 = M33.1.2.2.1 := by rw [F57.1]; exact ⟨rfl, rfl⟩
    have b_66 := g_b hG58 (a := 77) (i := 29) (lo := 0) (hi := 150) rfl rfl
    have z_67 := x_tk_b (0 : Int32)
    have z_68 := AN_n hpz23 hpqz23 hs1 hs2 hn1 hn2 hn3 hn4 hn5 F25 (fun a i z => show ¬ (6 ≤ a ∧ a ≤ 10) by omega) F57 (fun a i z => show ¬ (a = 77 ∧ (i = 2 ∨ i = 29) ∨ 90 ≤ a ∧ a ≤ 93) by omega) p_32 p_62 (by omega) (by omega) (by omega) (by omega) (fun z9 => ⟨fun z => by omega, fun z => by omega, fun z => by omega, fun z => by omega, fun z => by omega⟩)
    refine to_popi (pc := 660) rw_0_660 (to_go (pc := 661) rw_0_661 ?_)
    have c_69 : M63.2.1 77 7 = (M.2.1 77 7) := (F_n F57 (show ¬ (77 = 77 ∧ (7 = 2 ∨ 7 = 29) ∨ 90 ≤ 77 ∧ 77 ≤ 93) by decide) (F_n F25 (show ¬ (6 ≤ 77 ∧ 77 ≤ 10) by decide) rfl))
    have t_70 : (M63.2.1 77 7).toInt = (M.2.1 77 7).toInt := congrArg Int32.toInt c_69
    have c_71 : M63.2.1 77 6 = (M.2.1 77 6) := (F_n F57 (show ¬ (77 = 77 ∧ (6 = 2 ∨ 6 = 29) ∨ 90 ≤ 77 ∧ 77 ≤ 93) by decide) (F_n F25 (show ¬ (6 ≤ 77 ∧ 77 ≤ 10) by decide) rfl))
    have t_72 : (M63.2.1 77 6).toInt = (M.2.1 77 6).toInt := congrArg Int32.toInt c_71
    have c_73 : M63.2.1 1 1 = (M.2.1 1 1) := (F_n F57 (show ¬ (1 = 77 ∧ (1 = 2 ∨ 1 = 29) ∨ 90 ≤ 1 ∧ 1 ≤ 93) by decide) (F_n F25 (show ¬ (6 ≤ 1 ∧ 1 ≤ 10) by decide) rfl))
    have t_74 : (M63.2.1 1 1).toInt = (M.2.1 1 1).toInt := congrArg Int32.toInt c_73
    have c_75 : M63.2.1 77 1 = (M.2.1 77 1) := (F_n F57 (show ¬ (77 = 77 ∧ (1 = 2 ∨ 1 = 29) ∨ 90 ≤ 77 ∧ 77 ≤ 93) by decide) (F_n F25 (show ¬ (6 ≤ 77 ∧ 77 ≤ 10) by decide) rfl))
    have t_76 : (M63.2.1 77 1).toInt = (M.2.1 77 1).toInt := congrArg Int32.toInt c_75
    have c_77 : M63.2.1 0 12 = (M.2.1 0 12) := (F_n F57 (show ¬ (0 = 77 ∧ (12 = 2 ∨ 12 = 29) ∨ 90 ≤ 0 ∧ 0 ≤ 93) by decide) (F_n F25 (show ¬ (6 ≤ 0 ∧ 0 ≤ 10) by decide) rfl))
    have t_78 : (M63.2.1 0 12).toInt = (M.2.1 0 12).toInt := congrArg Int32.toInt c_77
    have c_79 : M63.2.1 77 28 = (M.2.1 77 28) := (F_n F57 (show ¬ (77 = 77 ∧ (28 = 2 ∨ 28 = 29) ∨ 90 ≤ 77 ∧ 77 ≤ 93) by decide) c_52)
    have t_80 : (M63.2.1 77 28).toInt = (M.2.1 77 28).toInt := congrArg Int32.toInt c_79
    have c_81 : M63.2.1 17 4 = (M.2.1 17 4) := (F_n F57 (show ¬ (17 = 77 ∧ (4 = 2 ∨ 4 = 29) ∨ 90 ≤ 17 ∧ 17 ≤ 93) by decide) (F_n F25 (show ¬ (6 ≤ 17 ∧ 17 ≤ 10) by decide) rfl))
    have t_82 : (M63.2.1 17 4).toInt = (M.2.1 17 4).toInt := congrArg Int32.toInt c_81
    have c_83 : M63.2.1 77 41 = (M.2.1 77 41) := (F_n F57 (show ¬ (77 = 77 ∧ (41 = 2 ∨ 41 = 29) ∨ 90 ≤ 77 ∧ 77 ≤ 93) by decide) (F_n F25 (show ¬ (6 ≤ 77 ∧ 77 ≤ 10) by decide) rfl))
    have t_84 : (M63.2.1 77 41).toInt = (M.2.1 77 41).toInt := congrArg Int32.toInt c_83
    have c_85 : M63.2.1 6 0 = (M33.2.1 6 0) := (F_n F57 (show ¬ (6 = 77 ∧ (0 = 2 ∨ 0 = 29) ∨ 90 ≤ 6 ∧ 6 ≤ 93) by decide) rfl)
    have t_86 : (M63.2.1 6 0).toInt = (M33.2.1 6 0).toInt := congrArg Int32.toInt c_85
    have j_87 := (PI_f (tg_605 F57) p_28)
    have j_88 := (NI_f (tg_606 F57) p_27)
    have j_89 := (QI_f (tg_607 F57) p_29)
    have j_90 := (PQE_r F57.2.1 (PQE_r F25.2.1 jPQE))
    have j_91 := (FA_f (tg_608 F57) (FA_f (tg_603 F25) jFA))
    have j_92 := (WC_f (tg_609 F57) (WC_f (tg_610 F25) jWC))
    have j_93 := (PS_f (tg_611 F57) (PS_f (tg_612 F25) jPS))
    have j_94 := (KQ_f (tg_613 F57) (KQ_f (tg_614 F25) jKQ))
    have j_95 := (TP_f (tg_615 F57) (TP_f (tg_616 F25) jTP))
    have j_96 := (W9_f (tg_617 F57) (W9_f (tg_618 F25) jW9))
    have j_97 := (G8_F F57 (fun a i z => show ¬ (a = 77 ∧ (i = 2 ∨ i = 29) ∨ 90 ≤ a ∧ a ≤ 93) by omega) z_43)
    have j_98 := (PKA_F F57 (fun a i z => show ¬ (a = 77 ∧ (i = 2 ∨ i = 29) ∨ 90 ≤ a ∧ a ≤ 93) by omega) (PKA_F F25 (fun a i z => show ¬ (6 ≤ a ∧ a ≤ 10) by omega) jPKA))
    have j_99 := (NE_r F57.2.1 (NE_r F25.2.1 jNE))
    have j_100 := (W8_f (tg_619 F57) (W8_f (tg_620 F25) jW8))
    exact h M63 (u5) (u6) ⟨⟨⟨⟨⟨⟨⟨⟨⟨hG58, ⟨j_87, j_88, j_89, j_90⟩, ⟨j_91, j_92, p_59, j_93, j_94⟩, by omega, by omega⟩, j_95, j_96⟩, j_99, by omega⟩, AN_a z_68⟩, by omega⟩, j_100⟩, by omega⟩, z_68⟩, j_97, j_98⟩ (by omega) (by omega)
  · refine to_c (pc := 621) rw_0_621 (x := (1 : Int32)) rfl rfl (to_go (pc := 622) rw_0_622 (s_v (pc := 626) rw_0_626 (dp0 hd (by decide)) (ls0 := [.ref 0, .int v11, .int v15, .int (1 : Int32)]) rfl (Nat.le_of_ble_eq_true rfl) (Nat.le_of_ble_eq_true rfl) rfl (to_rc rfl rfl rfl (g_o hG rfl)) rfl ?_))
    have k_101 : (1 : Int32).toInt = 1 := rfl
    obtain ⟨pz102, pzz102, qz102, qzz102, hpz102, hpzz102, hqz102, hqzz102, hpqz102⟩ := id jPQE
    obtain ⟨sg, NN, nz, ca, hs1, hs2, hn1, hn2, hn3, hn4, hn5⟩ := AN_u jAN hpqz102
    refine E_121 hX (dp1 hd (by decide)) hG hpz102 hpzz102 hqz102 hqzz102 hpqz102 (by omega) (by omega) jNI jPI jQI hs1.1 (c := v11) (e := v15) (m := (1 : Int32)) (sg := sg) (p := pz102) (pz := pzz102) (q := qz102) (qz := qzz102) (fun r103 M112 hG105 F104 p_106 p_107 p_108 p_109 p_110 p_111 => ?_)
    have n_113 : M112.1.2.1 = M.1.2.1 ∧ M112.1.2.2.1 = M.1.2.2.1 := by rw [F104.1]; exact ⟨rfl, rfl⟩
    have b_115 := g_b hG105 (a := 6) (i := 0) (lo := 0) (hi := 150) rfl rfl
    have k_116 : (0 : Int32).toInt = 0 := rfl
    have k_117 : (2 : Int32).toInt = 2 := rfl
    have k_118 : (3 : Int32).toInt = 3 := rfl
    have k_119 : (4 : Int32).toInt = 4 := rfl
    have k_120 : (5 : Int32).toInt = 5 := rfl
    have z_121 := x_tk_b (1 : Int32)
    have z_122 := G8_n jG8 hpz102 hpqz102 hs1 hn1 hn3 hn4 F104 (fun a i z => show ¬ (6 ≤ a ∧ a ≤ 10) by omega) p_111 (by omega) (fun z9 => ⟨fun z => by omega, fun z => by omega, fun z => by omega, fun z => by omega, fun z => by omega⟩) (fun z9 z => by omega)
    have c_123 : M112.2.1 77 29 = (M.2.1 77 29) := (F_n F104 (show ¬ (6 ≤ 77 ∧ 77 ≤ 10) by decide) rfl)
    have t_124 : (M112.2.1 77 29).toInt = (M.2.1 77 29).toInt := congrArg Int32.toInt c_123
    refine to_popi (pc := 629) rw_0_629 (to_an (pc := 630) rw_0_630 rfl (to_an (pc := 631) rw_0_631 rfl (to_i (pc := 632) rw_0_632 rfl (to_c (pc := 634) rw_0_634 (x := (1 : Int32)) rfl rfl (s_addk (pc := 635) rw_0_635 (A := i.toInt) (B := 1) rfl rfl (by omega) (v := v9) e10 (s_x0k (pc := 636) rw_0_636 hL (A := v9.toInt) rfl (by omega) (by omega) (v := v11) e12 (to_an (pc := 637) rw_0_637 rfl (to_i (pc := 638) rw_0_638 rfl (to_c (pc := 640) rw_0_640 (x := (2 : Int32)) rfl rfl (s_addk (pc := 641) rw_0_641 (A := i.toInt) (B := 2) rfl rfl (by omega) (v := v13) e14 (s_x0k (pc := 642) rw_0_642 hL (A := v13.toInt) rfl (by omega) (by omega) (v := v15) e16 ?_)))))))))))
    refine to_an (pc := 643) rw_0_643 rfl (to_i (pc := 644) rw_0_644 rfl (to_c (pc := 646) rw_0_646 (x := (3 : Int32)) rfl rfl (s_addk (pc := 647) rw_0_647 (A := i.toInt) (B := 3) rfl rfl (by omega) (v := v17) e18 (s_x0k (pc := 648) rw_0_648 hL (A := v17.toInt) rfl (by omega) (by omega) (v := v19) e20 (b_ieq (pc := 649) rw_0_649 (A := v19.toInt) rfl (fun h131 => ?_) (fun h131 => ?_))))))
    · refine to_c (pc := 656) rw_0_656 (x := (0 : Int32)) rfl rfl (s_v (pc := 657) rw_0_657 (dp0 hd (by decide)) (ls0 := [.ref 77, .int v11, .int v15, .int (0 : Int32)]) rfl (Nat.le_of_ble_eq_true rfl) (Nat.le_of_ble_eq_true rfl) rfl (to_rc rfl rfl rfl (g_o hG105 rfl)) rfl ?_)
      have c_132 : M112.2.1 77 28 = (M.2.1 77 28) := (F_n F104 (show ¬ (6 ≤ 77 ∧ 77 ≤ 10) by decide) rfl)
      have t_133 : (M112.2.1 77 28).toInt = (M.2.1 77 28).toInt := congrArg Int32.toInt c_132
      have j_134 := (NJ_f (tg_602 F104) jNJ)
      have j_135 := (PLk_f (tg_604 F104) hs2.1)
      refine E_196 hX (dp1 hd (by decide)) hG105 (by omega) (by omega) j_134 j_135 (c := v11) (e := v15) (m := (0 : Int32)) (sg := sg) (fun r136 M143 hG138 F137 p_139 p_140 p_141 p_142 => ?_)
      have n_144 : M143.1.2.1 = M112.1.2.1 ∧ M143.1.2.2.1 = M112.1.2.2.1 := by rw [F137.1]; exact ⟨rfl, rfl⟩
      have b_146 := g_b hG138 (a := 77) (i := 29) (lo := 0) (hi := 150) rfl rfl
      have z_147 := x_tk_b (0 : Int32)
      have z_148 : AN M143 := by exfalso; omega
      refine to_popi (pc := 660) rw_0_660 (to_go (pc := 661) rw_0_661 ?_)
      have c_149 : M143.2.1 77 7 = (M.2.1 77 7) := (F_n F137 (show ¬ (77 = 77 ∧ (7 = 2 ∨ 7 = 29) ∨ 90 ≤ 77 ∧ 77 ≤ 93) by decide) (F_n F104 (show ¬ (6 ≤ 77 ∧ 77 ≤ 10) by decide) rfl))
      have t_150 : (M143.2.1 77 7).toInt = (M.2.1 77 7).toInt := congrArg Int32.toInt c_149
      have c_151 : M143.2.1 77 6 = (M.2.1 77 6) := (F_n F137 (show ¬ (77 = 77 ∧ (6 = 2 ∨ 6 = 29) ∨ 90 ≤ 77 ∧ 77 ≤ 93) by decide) (F_n F104 (show ¬ (6 ≤ 77 ∧ 77 ≤ 10) by decide) rfl))
      have t_152 : (M143.2.1 77 6).toInt = (M.2.1 77 6).toInt := congrArg Int32.toInt c_151
      have c_153 : M143.2.1 1 1 = (M.2.1 1 1) := (F_n F137 (show ¬ (1 = 77 ∧ (1 = 2 ∨ 1 = 29) ∨ 90 ≤ 1 ∧ 1 ≤ 93) by decide) (F_n F104 (show ¬ (6 ≤ 1 ∧ 1 ≤ 10) by decide) rfl))
      have t_154 : (M143.2.1 1 1).toInt = (M.2.1 1 1).toInt := congrArg Int32.toInt c_153
      have c_155 : M143.2.1 77 1 = (M.2.1 77 1) := (F_n F137 (show ¬ (77 = 77 ∧ (1 = 2 ∨ 1 = 29) ∨ 90 ≤ 77 ∧ 77 ≤ 93) by decide) (F_n F104 (show ¬ (6 ≤ 77 ∧ 77 ≤ 10) by decide) rfl))
      have t_156 : (M143.2.1 77 1).toInt = (M.2.1 77 1).toInt := congrArg Int32.toInt c_155
      have c_157 : M143.2.1 0 12 = (M.2.1 0 12) := (F_n F137 (show ¬ (0 = 77 ∧ (12 = 2 ∨ 12 = 29) ∨ 90 ≤ 0 ∧ 0 ≤ 93) by decide) (F_n F104 (show ¬ (6 ≤ 0 ∧ 0 ≤ 10) by decide) rfl))
      have t_158 : (M143.2.1 0 12).toInt = (M.2.1 0 12).toInt := congrArg Int32.toInt c_157
      have c_159 : M143.2.1 77 28 = (M.2.1 77 28) := (F_n F137 (show ¬ (77 = 77 ∧ (28 = 2 ∨ 28 = 29) ∨ 90 ≤ 77 ∧ 77 ≤ 93) by decide) c_132)
      have t_160 : (M143.2.1 77 28).toInt = (M.2.1 77 28).toInt := congrArg Int32.toInt c_159
      have c_161 : M143.2.1 17 4 = (M.2.1 17 4) := (F_n F137 (show ¬ (17 = 77 ∧ (4 = 2 ∨ 4 = 29) ∨ 90 ≤ 17 ∧ 17 ≤ 93) by decide) (F_n F104 (show ¬ (6 ≤ 17 ∧ 17 ≤ 10) by decide) rfl))
      have t_162 : (M143.2.1 17 4).toInt = (M.2.1 17 4).toInt := congrArg Int32.toInt c_161
      have c_163 : M143.2.1 77 41 = (M.2.1 77 41) := (F_n F137 (show ¬ (77 = 77 ∧ (41 = 2 ∨ 41 = 29) ∨ 90 ≤ 77 ∧ 77 ≤ 93) by decide) (F_n F104 (show ¬ (6 ≤ 77 ∧ 77 ≤ 10) by decide) rfl))
      have t_164 : (M143.2.1 77 41).toInt = (M.2.1 77 41).toInt := congrArg Int32.toInt c_163
      have c_165 : M143.2.1 6 0 = (M112.2.1 6 0) := (F_n F137 (show ¬ (6 = 77 ∧ (0 = 2 ∨ 0 = 29) ∨ 90 ≤ 6 ∧ 6 ≤ 93) by decide) rfl)
      have t_166 : (M143.2.1 6 0).toInt = (M112.2.1 6 0).toInt := congrArg Int32.toInt c_165
      have j_167 := (PI_f (tg_605 F137) p_107)
      have j_168 := (NI_f (tg_606 F137) p_106)
      have j_169 := (QI_f (tg_607 F137) p_108)
      have j_170 := (PQE_r F137.2.1 (PQE_r F104.2.1 jPQE))
      have j_171 := (FA_f (tg_608 F137) (FA_f (tg_603 F104) jFA))
      have j_172 := (WC_f (tg_609 F137) (WC_f (tg_610 F104) jWC))
      have j_173 := (PS_f (tg_611 F137) (PS_f (tg_612 F104) jPS))
      have j_174 := (KQ_f (tg_613 F137) (KQ_f (tg_614 F104) jKQ))
      have j_175 := (TP_f (tg_615 F137) (TP_f (tg_616 F104) jTP))
      have j_176 := (W9_f (tg_617 F137) (W9_f (tg_618 F104) jW9))
      have j_177 := (G8_F F137 (fun a i z => show ¬ (a = 77 ∧ (i = 2 ∨ i = 29) ∨ 90 ≤ a ∧ a ≤ 93) by omega) z_122)
      have j_178 := (PKA_F F137 (fun a i z => show ¬ (a = 77 ∧ (i = 2 ∨ i = 29) ∨ 90 ≤ a ∧ a ≤ 93) by omega) (PKA_F F104 (fun a i z => show ¬ (6 ≤ a ∧ a ≤ 10) by omega) jPKA))
      have j_179 := (NE_r F137.2.1 (NE_r F104.2.1 jNE))
      have j_180 := (W8_f (tg_619 F137) (W8_f (tg_620 F104) jW8))
      exact h M143 (u5) (u6) ⟨⟨⟨⟨⟨⟨⟨⟨⟨hG138, ⟨j_167, j_168, j_169, j_170⟩, ⟨j_171, j_172, p_139, j_173, j_174⟩, by omega, by omega⟩, j_175, j_176⟩, j_179, by omega⟩, AN_a z_148⟩, by omega⟩, j_180⟩, by omega⟩, z_148⟩, j_177, j_178⟩ (by omega) (by omega)
    · refine to_c (pc := 652) rw_0_652 (x := (1 : Int32)) rfl rfl (to_go (pc := 653) rw_0_653 (s_v (pc := 657) rw_0_657 (dp0 hd (by decide)) (ls0 := [.ref 77, .int v11, .int v15, .int (1 : Int32)]) rfl (Nat.le_of_ble_eq_true rfl) (Nat.le_of_ble_eq_true rfl) rfl (to_rc rfl rfl rfl (g_o hG105 rfl)) rfl ?_))
      have c_181 : M112.2.1 77 28 = (M.2.1 77 28) := (F_n F104 (show ¬ (6 ≤ 77 ∧ 77 ≤ 10) by decide) rfl)
      have t_182 : (M112.2.1 77 28).toInt = (M.2.1 77 28).toInt := congrArg Int32.toInt c_181
      have j_183 := (NJ_f (tg_602 F104) jNJ)
      have j_184 := (PLk_f (tg_604 F104) hs2.1)
      refine E_196 hX (dp1 hd (by decide)) hG105 (by omega) (by omega) j_183 j_184 (c := v11) (e := v15) (m := (1 : Int32)) (sg := sg) (fun r185 M192 hG187 F186 p_188 p_189 p_190 p_191 => ?_)
      have n_193 : M192.1.2.1 = M112.1.2.1 ∧ M192.1.2.2.1 = M112.1.2.2.1 := by rw [F186.1]; exact ⟨rfl, rfl⟩
      have b_195 := g_b hG187 (a := 77) (i := 29) (lo := 0) (hi := 150) rfl rfl
      have z_196 := x_tk_b (1 : Int32)
      have z_197 := AN_n hpz102 hpqz102 hs1 hs2 hn1 hn2 hn3 hn4 hn5 F104 (fun a i z => show ¬ (6 ≤ a ∧ a ≤ 10) by omega) F186 (fun a i z => show ¬ (a = 77 ∧ (i = 2 ∨ i = 29) ∨ 90 ≤ a ∧ a ≤ 93) by omega) p_111 p_191 (by omega) (by omega) (by omega) (by omega) (fun z9 => ⟨fun z => by omega, fun z => by omega, fun z => by omega, fun z => by omega, fun z => by omega⟩)
      refine to_popi (pc := 660) rw_0_660 (to_go (pc := 661) rw_0_661 ?_)
      have c_198 : M192.2.1 77 7 = (M.2.1 77 7) := (F_n F186 (show ¬ (77 = 77 ∧ (7 = 2 ∨ 7 = 29) ∨ 90 ≤ 77 ∧ 77 ≤ 93) by decide) (F_n F104 (show ¬ (6 ≤ 77 ∧ 77 ≤ 10) by decide) rfl))
      have t_199 : (M192.2.1 77 7).toInt = (M.2.1 77 7).toInt := congrArg Int32.toInt c_198
      have c_200 : M192.2.1 77 6 = (M.2.1 77 6) := (F_n F186 (show ¬ (77 = 77 ∧ (6 = 2 ∨ 6 = 29) ∨ 90 ≤ 77 ∧ 77 ≤ 93) by decide) (F_n F104 (show ¬ (6 ≤ 77 ∧ 77 ≤ 10) by decide) rfl))
      have t_201 : (M192.2.1 77 6).toInt = (M.2.1 77 6).toInt := congrArg Int32.toInt c_200
      have c_202 : M192.2.1 1 1 = (M.2.1 1 1) := (F_n F186 (show ¬ (1 = 77 ∧ (1 = 2 ∨ 1 = 29) ∨ 90 ≤ 1 ∧ 1 ≤ 93) by decide) (F_n F104 (show ¬ (6 ≤ 1 ∧ 1 ≤ 10) by decide) rfl))
      have t_203 : (M192.2.1 1 1).toInt = (M.2.1 1 1).toInt := congrArg Int32.toInt c_202
      have c_204 : M192.2.1 77 1 = (M.2.1 77 1) := (F_n F186 (show ¬ (77 = 77 ∧ (1 = 2 ∨ 1 = 29) ∨ 90 ≤ 77 ∧ 77 ≤ 93) by decide) (F_n F104 (show ¬ (6 ≤ 77 ∧ 77 ≤ 10) by decide) rfl))
      have t_205 : (M192.2.1 77 1).toInt = (M.2.1 77 1).toInt := congrArg Int32.toInt c_204
      have c_206 : M192.2.1 0 12 = (M.2.1 0 12) := (F_n F186 (show ¬ (0 = 77 ∧ (12 = 2 ∨ 12 = 29) ∨ 90 ≤ 0 ∧ 0 ≤ 93) by decide) (F_n F104 (show ¬ (6 ≤ 0 ∧ 0 ≤ 10) by decide) rfl))
      have t_207 : (M192.2.1 0 12).toInt = (M.2.1 0 12).toInt := congrArg Int32.toInt c_206
      have c_208 : M192.2.1 77 28 = (M.2.1 77 28) := (F_n F186 (show ¬ (77 = 77 ∧ (28 = 2 ∨ 28 = 29) ∨ 90 ≤ 77 ∧ 77 ≤ 93) by decide) c_181)
      have t_209 : (M192.2.1 77 28).toInt = (M.2.1 77 28).toInt := congrArg Int32.toInt c_208
      have c_210 : M192.2.1 17 4 = (M.2.1 17 4) := (F_n F186 (show ¬ (17 = 77 ∧ (4 = 2 ∨ 4 = 29) ∨ 90 ≤ 17 ∧ 17 ≤ 93) by decide) (F_n F104 (show ¬ (6 ≤ 17 ∧ 17 ≤ 10) by decide) rfl))
      have t_211 : (M192.2.1 17 4).toInt = (M.2.1 17 4).toInt := congrArg Int32.toInt c_210
      have c_212 : M192.2.1 77 41 = (M.2.1 77 41) := (F_n F186 (show ¬ (77 = 77 ∧ (41 = 2 ∨ 41 = 29) ∨ 90 ≤ 77 ∧ 77 ≤ 93) by decide) (F_n F104 (show ¬ (6 ≤ 77 ∧ 77 ≤ 10) by decide) rfl))
      have t_213 : (M192.2.1 77 41).toInt = (M.2.1 77 41).toInt := congrArg Int32.toInt c_212
      have c_214 : M192.2.1 6 0 = (M112.2.1 6 0) := (F_n F186 (show ¬ (6 = 77 ∧ (0 = 2 ∨ 0 = 29) ∨ 90 ≤ 6 ∧ 6 ≤ 93) by decide) rfl)
      have t_215 : (M192.2.1 6 0).toInt = (M112.2.1 6 0).toInt := congrArg Int32.toInt c_214
      have j_216 := (PI_f (tg_605 F186) p_107)
      have j_217 := (NI_f (tg_606 F186) p_106)
      have j_218 := (QI_f (tg_607 F186) p_108)
      have j_219 := (PQE_r F186.2.1 (PQE_r F104.2.1 jPQE))
      have j_220 := (FA_f (tg_608 F186) (FA_f (tg_603 F104) jFA))
      have j_221 := (WC_f (tg_609 F186) (WC_f (tg_610 F104) jWC))
      have j_222 := (PS_f (tg_611 F186) (PS_f (tg_612 F104) jPS))
      have j_223 := (KQ_f (tg_613 F186) (KQ_f (tg_614 F104) jKQ))
      have j_224 := (TP_f (tg_615 F186) (TP_f (tg_616 F104) jTP))
      have j_225 := (W9_f (tg_617 F186) (W9_f (tg_618 F104) jW9))
      have j_226 := (G8_F F186 (fun a i z => show ¬ (a = 77 ∧ (i = 2 ∨ i = 29) ∨ 90 ≤ a ∧ a ≤ 93) by omega) z_122)
      have j_227 := (PKA_F F186 (fun a i z => show ¬ (a = 77 ∧ (i = 2 ∨ i = 29) ∨ 90 ≤ a ∧ a ≤ 93) by omega) (PKA_F F104 (fun a i z => show ¬ (6 ≤ a ∧ a ≤ 10) by omega) jPKA))
      have j_228 := (NE_r F186.2.1 (NE_r F104.2.1 jNE))
      have j_229 := (W8_f (tg_619 F186) (W8_f (tg_620 F104) jW8))
      exact h M192 (u5) (u6) ⟨⟨⟨⟨⟨⟨⟨⟨⟨hG187, ⟨j_216, j_217, j_218, j_219⟩, ⟨j_220, j_221, p_188, j_222, j_223⟩, by omega, by omega⟩, j_224, j_225⟩, j_228, by omega⟩, AN_a z_197⟩, by omega⟩, j_229⟩, by omega⟩, z_197⟩, j_226, j_227⟩ (by omega) (by omega)
set_option maxRecDepth 4000 in
set_option maxHeartbeats 0 in
theorem LW_13 {X : mm_X} {d L : Nat} {M : mm_M} {Q : Option Value → mm_M → Prop} {i : Int32} {u5 u6 : Value} (hX : g_X X) (hW : g_W X) (hW2 : g_W2 X) (hL : (X 0).1 = L) (h3 : L ≤ 3072) (hd : 40 ≤ d) (hi : 0 ≤ i.toInt) (hi2 : i.toInt + 6 ≤ (L : Int)) (H : LI10 M) (h : ∀ (M1 : mm_M) (v5 v6 : Value), LI10 M1 → M1.1.2.1 ≤ M.1.2.1 + 1 → M1.1.2.2.1 ≤ M.1.2.2.1 + 6 → mm_T X d 0 1313 [.ref mm_ext, .ref 0, .ref 77, .ref 125, .int i, v5, v6] [] M1 Q) : mm_T X d 0 664 [.ref mm_ext, .ref 0, .ref 77, .ref 125, .int i, u5, u6] [] M Q := by
  obtain ⟨⟨⟨⟨⟨⟨⟨⟨⟨hG, ⟨jPI, jNI, jQI, jPQE⟩, ⟨jFA, jWC, jNJ, jPS, jKQ⟩, jJ, jE⟩, jTP, jW9⟩, jNE, jCC⟩, -⟩, jOV⟩, jW8⟩, jNN⟩, jAN⟩, jG8, jPKA⟩ := H
  have b_1 := g_b hG (a := 77) (i := 7) (lo := 0) (hi := 500) rfl rfl
  have b_2 := g_b hG (a := 77) (i := 6) (lo := 0) (hi := 500) rfl rfl
  have b_3 := g_b hG (a := 1) (i := 1) (lo := 0) (hi := 500) rfl rfl
  have b_4 := g_b hG (a := 77) (i := 1) (lo := 0) (hi := 500) rfl rfl
  have b_5 := g_b hG (a := 0) (i := 12) (lo := 0) (hi := 30) rfl rfl
  have b_6 := g_b hG (a := 77) (i := 28) (lo := 0) (hi := 30) rfl rfl
  have b_7 := g_b hG (a := 6) (i := 0) (lo := 0) (hi := 150) rfl rfl
  have b_8 := g_b hG (a := 77) (i := 29) (lo := 0) (hi := 150) rfl rfl
  refine to_an (pc := 664) rw_0_664 rfl (to_an (pc := 665) rw_0_665 rfl (to_i (pc := 666) rw_0_666 rfl (to_c (pc := 668) rw_0_668 (x := (1 : Int32)) rfl rfl (s_add (pc := 669) rw_0_669 (A := i.toInt) (B := 1) rfl rfl (by omega) (fun v9 e10 => s_x0 (pc := 670) rw_0_670 hL (A := v9.toInt) rfl (by omega) (by omega) (fun v11 e12 => to_an (pc := 671) rw_0_671 rfl (to_i (pc := 672) rw_0_672 rfl (to_c (pc := 674) rw_0_674 (x := (2 : Int32)) rfl rfl (s_add (pc := 675) rw_0_675 (A := i.toInt) (B := 2) rfl rfl (by omega) (fun v13 e14 => s_x0 (pc := 676) rw_0_676 hL (A := v13.toInt) rfl (by omega) (by omega) (fun v15 e16 => s_v (pc := 677) rw_0_677 (dp0 hd (by decide)) (ls0 := [.ref 0, .int v11, .int v15]) rfl (Nat.le_of_ble_eq_true rfl) (Nat.le_of_ble_eq_true rfl) rfl (to_rc rfl rfl rfl (g_o hG rfl)) rfl ?_)))))))))))
  obtain ⟨pz17, pzz17, qz17, qzz17, hpz17, hpzz17, hqz17, hqzz17, hpqz17⟩ := id jPQE
  obtain ⟨sg, NN, nz, ca, hs1, hs2, hn1, hn2, hn3, hn4, hn5⟩ := AN_u jAN hpqz17
  refine E_122 hX (dp1 hd (by decide)) hG hpz17 hpzz17 hqz17 hqzz17 hpqz17 jNI jPI jQI hs1.1 (w := v11) (b := v15) (sg := sg) (p := pz17) (pz := pzz17) (q := qz17) (qz := qzz17) (fun r18 M27 hG20 F19 p_21 p_22 p_23 p_24 p_25 p_26 => ?_)
  have n_28 : M27.1.2.1 = M.1.2.1 ∧ M27.1.2.2.1 = M.1.2.2.1 := by rw [F19.1]; exact ⟨rfl, rfl⟩
  have b_30 := g_b hG20 (a := 6) (i := 0) (lo := 0) (hi := 150) rfl rfl
  have k_31 : (0 : Int32).toInt = 0 := rfl
  have k_32 : (1 : Int32).toInt = 1 := rfl
  have k_33 : (2 : Int32).toInt = 2 := rfl
  have k_34 : (3 : Int32).toInt = 3 := rfl
  have k_35 : (4 : Int32).toInt = 4 := rfl
  have k_36 : (5 : Int32).toInt = 5 := rfl
  have z_37 := G8_n jG8 hpz17 hpqz17 hs1 hn1 hn3 hn4 F19 (fun a i z => show ¬ (6 ≤ a ∧ a ≤ 10) by omega) p_26 (by omega) (fun z9 => ⟨fun z => by omega, fun z => by omega, fun z => by omega, fun z => by omega, fun z => by omega⟩) (fun z9 z => by omega)
  have c_38 : M27.2.1 77 29 = (M.2.1 77 29) := (F_n F19 (show ¬ (6 ≤ 77 ∧ 77 ≤ 10) by decide) rfl)
  have t_39 : (M27.2.1 77 29).toInt = (M.2.1 77 29).toInt := congrArg Int32.toInt c_38
  refine to_popi (pc := 680) rw_0_680 (to_an (pc := 681) rw_0_681 rfl (to_an (pc := 682) rw_0_682 rfl (to_i (pc := 683) rw_0_683 rfl (to_c (pc := 685) rw_0_685 (x := (1 : Int32)) rfl rfl (s_addk (pc := 686) rw_0_686 (A := i.toInt) (B := 1) rfl rfl (by omega) (v := v9) e10 (s_x0k (pc := 687) rw_0_687 hL (A := v9.toInt) rfl (by omega) (by omega) (v := v11) e12 (to_an (pc := 688) rw_0_688 rfl (to_i (pc := 689) rw_0_689 rfl (to_c (pc := 691) rw_0_691 (x := (2 : Int32)) rfl rfl (s_addk (pc := 692) rw_0_692 (A := i.toInt) (B := 2) rfl rfl (by omega) (v := v13) e14 (s_x0k (pc := 693) rw_0_693 hL (A := v13.toInt) rfl (by omega) (by omega) (v := v15) e16 ?_)))))))))))
  refine s_v (pc := 694) rw_0_694 (dp0 hd (by decide)) (ls0 := [.ref 77, .int v11, .int v15]) rfl (Nat.le_of_ble_eq_true rfl) (Nat.le_of_ble_eq_true rfl) rfl (to_rc rfl rfl rfl (g_o hG20 rfl)) rfl ?_
  have j_44 := (NJ_f (tg_602 F19) jNJ)
  have j_45 := (PLk_f (tg_604 F19) hs2.1)
  refine E_198 hX (dp1 hd (by decide)) hG20 j_44 j_45 (w := v11) (b := v15) (sg := sg) (fun r46 M53 hG48 F47 p_49 p_50 p_51 p_52 => ?_)
  have n_54 : M53.1.2.1 = M27.1.2.1 ∧ M53.1.2.2.1 = M27.1.2.2.1 := by rw [F47.1]; exact ⟨rfl, rfl⟩
  have b_56 := g_b hG48 (a := 77) (i := 29) (lo := 0) (hi := 150) rfl rfl
  have z_57 := AN_n hpz17 hpqz17 hs1 hs2 hn1 hn2 hn3 hn4 hn5 F19 (fun a i z => show ¬ (6 ≤ a ∧ a ≤ 10) by omega) F47 (fun a i z => show ¬ (a = 77 ∧ (i = 2 ∨ i = 29) ∨ 90 ≤ a ∧ a ≤ 93) by omega) p_26 p_52 (by omega) (by omega) (by omega) (by omega) (fun z9 => ⟨fun z => by omega, fun z => by omega, fun z => by omega, fun z => by omega, fun z => by omega⟩)
  refine to_popi (pc := 697) rw_0_697 (to_go (pc := 698) rw_0_698 ?_)
  have c_58 : M53.2.1 77 7 = (M.2.1 77 7) := (F_n F47 (show ¬ (77 = 77 ∧ (7 = 2 ∨ 7 = 29) ∨ 90 ≤ 77 ∧ 77 ≤ 93) by decide) (F_n F19 (show ¬ (6 ≤ 77 ∧ 77 ≤ 10) by decide) rfl))
  have t_59 : (M53.2.1 77 7).toInt = (M.2.1 77 7).toInt := congrArg Int32.toInt c_58
  have c_60 : M53.2.1 77 6 = (M.2.1 77 6) := (F_n F47 (show ¬ (77 = 77 ∧ (6 = 2 ∨ 6 = 29) ∨ 90 ≤ 77 ∧ 77 ≤ 93) by decide) (F_n F19 (show ¬ (6 ≤ 77 ∧ 77 ≤ 10) by decide) rfl))
  have t_61 : (M53.2.1 77 6).toInt = (M.2.1 77 6).toInt := congrArg Int32.toInt c_60
  have c_62 : M53.2.1 1 1 = (M.2.1 1 1) := (F_n F47 (show ¬ (1 = 77 ∧ (1 = 2 ∨ 1 = 29) ∨ 90 ≤ 1 ∧ 1 ≤ 93) by decide) (F_n F19 (show ¬ (6 ≤ 1 ∧ 1 ≤ 10) by decide) rfl))
  have t_63 : (M53.2.1 1 1).toInt = (M.2.1 1 1).toInt := congrArg Int32.toInt c_62
  have c_64 : M53.2.1 77 1 = (M.2.1 77 1) := (F_n F47 (show ¬ (77 = 77 ∧ (1 = 2 ∨ 1 = 29) ∨ 90 ≤ 77 ∧ 77 ≤ 93) by decide) (F_n F19 (show ¬ (6 ≤ 77 ∧ 77 ≤ 10) by decide) rfl))
  have t_65 : (M53.2.1 77 1).toInt = (M.2.1 77 1).toInt := congrArg Int32.toInt c_64
  have c_66 : M53.2.1 0 12 = (M.2.1 0 12) := (F_n F47 (show ¬ (0 = 77 ∧ (12 = 2 ∨ 12 = 29) ∨ 90 ≤ 0 ∧ 0 ≤ 93) by decide) (F_n F19 (show ¬ (6 ≤ 0 ∧ 0 ≤ 10) by decide) rfl))
  have t_67 : (M53.2.1 0 12).toInt = (M.2.1 0 12).toInt := congrArg Int32.toInt c_66
  have c_68 : M53.2.1 77 28 = (M.2.1 77 28) := (F_n F47 (show ¬ (77 = 77 ∧ (28 = 2 ∨ 28 = 29) ∨ 90 ≤ 77 ∧ 77 ≤ 93) by decide) (F_n F19 (show ¬ (6 ≤ 77 ∧ 77 ≤ 10) by decide) rfl))
  have t_69 : (M53.2.1 77 28).toInt = (M.2.1 77 28).toInt := congrArg Int32.toInt c_68
  have c_70 : M53.2.1 17 4 = (M.2.1 17 4) := (F_n F47 (show ¬ (17 = 77 ∧ (4 = 2 ∨ 4 = 29) ∨ 90 ≤ 17 ∧ 17 ≤ 93) by decide) (F_n F19 (show ¬ (6 ≤ 17 ∧ 17 ≤ 10) by decide) rfl))
  have t_71 : (M53.2.1 17 4).toInt = (M.2.1 17 4).toInt := congrArg Int32.toInt c_70
  have c_72 : M53.2.1 77 41 = (M.2.1 77 41) := (F_n F47 (show ¬ (77 = 77 ∧ (41 = 2 ∨ 41 = 29) ∨ 90 ≤ 77 ∧ 77 ≤ 93) by decide) (F_n F19 (show ¬ (6 ≤ 77 ∧ 77 ≤ 10) by decide) rfl))
  have t_73 : (M53.2.1 77 41).toInt = (M.2.1 77 41).toInt := congrArg Int32.toInt c_72
  have c_74 : M53.2.1 6 0 = (M27.2.1 6 0) := (F_n F47 (show ¬ (6 = 77 ∧ (0 = 2 ∨ 0 = 29) ∨ 90 ≤ 6 ∧ 6 ≤ 93) by decide) rfl)
  have t_75 : (M53.2.1 6 0).toInt = (M27.2.1 6 0).toInt := congrArg Int32.toInt c_74
  have j_76 := (PI_f (tg_605 F47) p_22)
  have j_77 := (NI_f (tg_606 F47) p_21)
  have j_78 := (QI_f (tg_607 F47) p_23)
  have j_79 := (PQE_r F47.2.1 (PQE_r F19.2.1 jPQE))
  have j_80 := (FA_f (tg_608 F47) (FA_f (tg_603 F19) jFA))
  have j_81 := (WC_f (tg_609 F47) (WC_f (tg_610 F19) jWC))
  have j_82 := (PS_f (tg_611 F47) (PS_f (tg_612 F19) jPS))
  have j_83 := (KQ_f (tg_613 F47) (KQ_f (tg_614 F19) jKQ))
  have j_84 := (TP_f (tg_615 F47) (TP_f (tg_616 F19) jTP))
  have j_85 := (W9_f (tg_617 F47) (W9_f (tg_618 F19) jW9))
  have j_86 := (G8_F F47 (fun a i z => show ¬ (a = 77 ∧ (i = 2 ∨ i = 29) ∨ 90 ≤ a ∧ a ≤ 93) by omega) z_37)
  have j_87 := (PKA_F F47 (fun a i z => show ¬ (a = 77 ∧ (i = 2 ∨ i = 29) ∨ 90 ≤ a ∧ a ≤ 93) by omega) (PKA_F F19 (fun a i z => show ¬ (6 ≤ a ∧ a ≤ 10) by omega) jPKA))
  have j_88 := (NE_r F47.2.1 (NE_r F19.2.1 jNE))
  have j_89 := (W8_f (tg_619 F47) (W8_f (tg_620 F19) jW8))
  exact h M53 (u5) (u6) ⟨⟨⟨⟨⟨⟨⟨⟨⟨hG48, ⟨j_76, j_77, j_78, j_79⟩, ⟨j_80, j_81, p_49, j_82, j_83⟩, by omega, by omega⟩, j_84, j_85⟩, j_88, by omega⟩, AN_a z_57⟩, by omega⟩, j_89⟩, by omega⟩, z_57⟩, j_86, j_87⟩ (by omega) (by omega)
set_option maxRecDepth 4000 in
set_option maxHeartbeats 0 in
theorem LW_14 {X : mm_X} {d L : Nat} {M : mm_M} {Q : Option Value → mm_M → Prop} {i : Int32} {u5 u6 : Value} (hX : g_X X) (hW : g_W X) (hW2 : g_W2 X) (hL : (X 0).1 = L) (h3 : L ≤ 3072) (hd : 40 ≤ d) (hi : 0 ≤ i.toInt) (hi2 : i.toInt + 6 ≤ (L : Int)) (H : LI10 M) (h : ∀ (M1 : mm_M) (v5 v6 : Value), LI10 M1 → M1.1.2.1 ≤ M.1.2.1 + 1 → M1.1.2.2.1 ≤ M.1.2.2.1 + 6 → mm_T X d 0 1313 [.ref mm_ext, .ref 0, .ref 77, .ref 125, .int i, v5, v6] [] M1 Q) : mm_T X d 0 701 [.ref mm_ext, .ref 0, .ref 77, .ref 125, .int i, u5, u6] [] M Q := by
  obtain ⟨⟨⟨⟨⟨⟨⟨⟨⟨hG, ⟨jPI, jNI, jQI, jPQE⟩, ⟨jFA, jWC, jNJ, jPS, jKQ⟩, jJ, jE⟩, jTP, jW9⟩, jNE, jCC⟩, -⟩, jOV⟩, jW8⟩, jNN⟩, jAN⟩, jG8, jPKA⟩ := H
  have b_1 := g_b hG (a := 77) (i := 7) (lo := 0) (hi := 500) rfl rfl
  have b_2 := g_b hG (a := 77) (i := 6) (lo := 0) (hi := 500) rfl rfl
  have b_3 := g_b hG (a := 1) (i := 1) (lo := 0) (hi := 500) rfl rfl
  have b_4 := g_b hG (a := 77) (i := 1) (lo := 0) (hi := 500) rfl rfl
  have b_5 := g_b hG (a := 0) (i := 12) (lo := 0) (hi := 30) rfl rfl
  have b_6 := g_b hG (a := 77) (i := 28) (lo := 0) (hi := 30) rfl rfl
  have b_7 := g_b hG (a := 6) (i := 0) (lo := 0) (hi := 150) rfl rfl
  have b_8 := g_b hG (a := 77) (i := 29) (lo := 0) (hi := 150) rfl rfl
  refine to_an (pc := 701) rw_0_701 rfl (to_an (pc := 702) rw_0_702 rfl (to_i (pc := 703) rw_0_703 rfl (to_c (pc := 705) rw_0_705 (x := (1 : Int32)) rfl rfl (s_add (pc := 706) rw_0_706 (A := i.toInt) (B := 1) rfl rfl (by omega) (fun v9 e10 => s_x0 (pc := 707) rw_0_707 hL (A := v9.toInt) rfl (by omega) (by omega) (fun v11 e12 => s_v (pc := 708) rw_0_708 (dp0 hd (by decide)) (ls0 := [.ref 0, .int v11]) rfl (Nat.le_of_ble_eq_true rfl) (Nat.le_of_ble_eq_true rfl) rfl (to_rc rfl rfl rfl (g_o hG rfl)) rfl ?_))))))
  obtain ⟨pz13, pzz13, qz13, qzz13, hpz13, hpzz13, hqz13, hqzz13, hpqz13⟩ := id jPQE
  obtain ⟨sg, NN, nz, ca, hs1, hs2, hn1, hn2, hn3, hn4, hn5⟩ := AN_u jAN hpqz13
  refine E_123 hX (dp1 hd (by decide)) hG hpz13 hpzz13 hqz13 hqzz13 hpqz13 jNI jPI jQI hs1.1 (n := v11) (sg := sg) (p := pz13) (pz := pzz13) (q := qz13) (qz := qzz13) (fun r14 M23 hG16 F15 p_17 p_18 p_19 p_20 p_21 p_22 => ?_)
  have n_24 : M23.1.2.1 = M.1.2.1 ∧ M23.1.2.2.1 = M.1.2.2.1 := by rw [F15.1]; exact ⟨rfl, rfl⟩
  have b_26 := g_b hG16 (a := 6) (i := 0) (lo := 0) (hi := 150) rfl rfl
  have k_27 : (0 : Int32).toInt = 0 := rfl
  have k_28 : (1 : Int32).toInt = 1 := rfl
  have k_29 : (2 : Int32).toInt = 2 := rfl
  have k_30 : (3 : Int32).toInt = 3 := rfl
  have k_31 : (4 : Int32).toInt = 4 := rfl
  have k_32 : (5 : Int32).toInt = 5 := rfl
  have z_33 := G8_n jG8 hpz13 hpqz13 hs1 hn1 hn3 hn4 F15 (fun a i z => show ¬ (6 ≤ a ∧ a ≤ 10) by omega) p_22 (by omega) (fun z9 => ⟨fun z => by omega, fun z => by omega, fun z => by omega, fun z => by omega, fun z => by omega⟩) (fun z9 z => by omega)
  have c_34 : M23.2.1 77 29 = (M.2.1 77 29) := (F_n F15 (show ¬ (6 ≤ 77 ∧ 77 ≤ 10) by decide) rfl)
  have t_35 : (M23.2.1 77 29).toInt = (M.2.1 77 29).toInt := congrArg Int32.toInt c_34
  refine to_popi (pc := 711) rw_0_711 (to_an (pc := 712) rw_0_712 rfl (to_an (pc := 713) rw_0_713 rfl (to_i (pc := 714) rw_0_714 rfl (to_c (pc := 716) rw_0_716 (x := (1 : Int32)) rfl rfl (s_addk (pc := 717) rw_0_717 (A := i.toInt) (B := 1) rfl rfl (by omega) (v := v9) e10 (s_x0k (pc := 718) rw_0_718 hL (A := v9.toInt) rfl (by omega) (by omega) (v := v11) e12 (s_v (pc := 719) rw_0_719 (dp0 hd (by decide)) (ls0 := [.ref 77, .int v11]) rfl (Nat.le_of_ble_eq_true rfl) (Nat.le_of_ble_eq_true rfl) rfl (to_rc rfl rfl rfl (g_o hG16 rfl)) rfl ?_)))))))
  have j_38 := (NJ_f (tg_602 F15) jNJ)
  have j_39 := (PLk_f (tg_604 F15) hs2.1)
  refine E_199 hX (dp1 hd (by decide)) hG16 j_38 j_39 (n := v11) (sg := sg) (fun r40 M47 hG42 F41 p_43 p_44 p_45 p_46 => ?_)
  have n_48 : M47.1.2.1 = M23.1.2.1 ∧ M47.1.2.2.1 = M23.1.2.2.1 := by rw [F41.1]; exact ⟨rfl, rfl⟩
  have b_50 := g_b hG42 (a := 77) (i := 29) (lo := 0) (hi := 150) rfl rfl
  have z_51 := AN_n hpz13 hpqz13 hs1 hs2 hn1 hn2 hn3 hn4 hn5 F15 (fun a i z => show ¬ (6 ≤ a ∧ a ≤ 10) by omega) F41 (fun a i z => show ¬ (a = 77 ∧ (i = 2 ∨ i = 29) ∨ 90 ≤ a ∧ a ≤ 93) by omega) p_22 p_46 (by omega) (by omega) (by omega) (by omega) (fun z9 => ⟨fun z => by omega, fun z => by omega, fun z => by omega, fun z => by omega, fun z => by omega⟩)
  refine to_popi (pc := 722) rw_0_722 (to_go (pc := 723) rw_0_723 ?_)
  have c_52 : M47.2.1 77 7 = (M.2.1 77 7) := (F_n F41 (show ¬ (77 = 77 ∧ (7 = 2 ∨ 7 = 29) ∨ 90 ≤ 77 ∧ 77 ≤ 93) by decide) (F_n F15 (show ¬ (6 ≤ 77 ∧ 77 ≤ 10) by decide) rfl))
  have t_53 : (M47.2.1 77 7).toInt = (M.2.1 77 7).toInt := congrArg Int32.toInt c_52
  have c_54 : M47.2.1 77 6 = (M.2.1 77 6) := (F_n F41 (show ¬ (77 = 77 ∧ (6 = 2 ∨ 6 = 29) ∨ 90 ≤ 77 ∧ 77 ≤ 93) by decide) (F_n F15 (show ¬ (6 ≤ 77 ∧ 77 ≤ 10) by decide) rfl))
  have t_55 : (M47.2.1 77 6).toInt = (M.2.1 77 6).toInt := congrArg Int32.toInt c_54
  have c_56 : M47.2.1 1 1 = (M.2.1 1 1) := (F_n F41 (show ¬ (1 = 77 ∧ (1 = 2 ∨ 1 = 29) ∨ 90 ≤ 1 ∧ 1 ≤ 93) by decide) (F_n F15 (show ¬ (6 ≤ 1 ∧ 1 ≤ 10) by decide) rfl))
  have t_57 : (M47.2.1 1 1).toInt = (M.2.1 1 1).toInt := congrArg Int32.toInt c_56
  have c_58 : M47.2.1 77 1 = (M.2.1 77 1) := (F_n F41 (show ¬ (77 = 77 ∧ (1 = 2 ∨ 1 = 29) ∨ 90 ≤ 77 ∧ 77 ≤ 93) by decide) (F_n F15 (show ¬ (6 ≤ 77 ∧ 77 ≤ 10) by decide) rfl))
  have t_59 : (M47.2.1 77 1).toInt = (M.2.1 77 1).toInt := congrArg Int32.toInt c_58
  have c_60 : M47.2.1 0 12 = (M.2.1 0 12) := (F_n F41 (show ¬ (0 = 77 ∧ (12 = 2 ∨ 12 = 29) ∨ 90 ≤ 0 ∧ 0 ≤ 93) by decide) (F_n F15 (show ¬ (6 ≤ 0 ∧ 0 ≤ 10) by decide) rfl))
  have t_61 : (M47.2.1 0 12).toInt = (M.2.1 0 12).toInt := congrArg Int32.toInt c_60
  have c_62 : M47.2.1 77 28 = (M.2.1 77 28) := (F_n F41 (show ¬ (77 = 77 ∧ (28 = 2 ∨ 28 = 29) ∨ 90 ≤ 77 ∧ 77 ≤ 93) by decide) (F_n F15 (show ¬ (6 ≤ 77 ∧ 77 ≤ 10) by decide) rfl))
  have t_63 : (M47.2.1 77 28).toInt = (M.2.1 77 28).toInt := congrArg Int32.toInt c_62
  have c_64 : M47.2.1 17 4 = (M.2.1 17 4) := (F_n F41 (show ¬ (17 = 77 ∧ (4 = 2 ∨ 4 = 29) ∨ 90 ≤ 17 ∧ 17 ≤ 93) by decide) (F_n F15 (show ¬ (6 ≤ 17 ∧ 17 ≤ 10) by decide) rfl))
  have t_65 : (M47.2.1 17 4).toInt = (M.2.1 17 4).toInt := congrArg Int32.toInt c_64
  have c_66 : M47.2.1 77 41 = (M.2.1 77 41) := (F_n F41 (show ¬ (77 = 77 ∧ (41 = 2 ∨ 41 = 29) ∨ 90 ≤ 77 ∧ 77 ≤ 93) by decide) (F_n F15 (show ¬ (6 ≤ 77 ∧ 77 ≤ 10) by decide) rfl))
  have t_67 : (M47.2.1 77 41).toInt = (M.2.1 77 41).toInt := congrArg Int32.toInt c_66
  have c_68 : M47.2.1 6 0 = (M23.2.1 6 0) := (F_n F41 (show ¬ (6 = 77 ∧ (0 = 2 ∨ 0 = 29) ∨ 90 ≤ 6 ∧ 6 ≤ 93) by decide) rfl)
  have t_69 : (M47.2.1 6 0).toInt = (M23.2.1 6 0).toInt := congrArg Int32.toInt c_68
  have j_70 := (PI_f (tg_605 F41) p_18)
  have j_71 := (NI_f (tg_606 F41) p_17)
  have j_72 := (QI_f (tg_607 F41) p_19)
  have j_73 := (PQE_r F41.2.1 (PQE_r F15.2.1 jPQE))
  have j_74 := (FA_f (tg_608 F41) (FA_f (tg_603 F15) jFA))
  have j_75 := (WC_f (tg_609 F41) (WC_f (tg_610 F15) jWC))
  have j_76 := (PS_f (tg_611 F41) (PS_f (tg_612 F15) jPS))
  have j_77 := (KQ_f (tg_613 F41) (KQ_f (tg_614 F15) jKQ))
  have j_78 := (TP_f (tg_615 F41) (TP_f (tg_616 F15) jTP))
  have j_79 := (W9_f (tg_617 F41) (W9_f (tg_618 F15) jW9))
  have j_80 := (G8_F F41 (fun a i z => show ¬ (a = 77 ∧ (i = 2 ∨ i = 29) ∨ 90 ≤ a ∧ a ≤ 93) by omega) z_33)
  have j_81 := (PKA_F F41 (fun a i z => show ¬ (a = 77 ∧ (i = 2 ∨ i = 29) ∨ 90 ≤ a ∧ a ≤ 93) by omega) (PKA_F F15 (fun a i z => show ¬ (6 ≤ a ∧ a ≤ 10) by omega) jPKA))
  have j_82 := (NE_r F41.2.1 (NE_r F15.2.1 jNE))
  have j_83 := (W8_f (tg_619 F41) (W8_f (tg_620 F15) jW8))
  exact h M47 (u5) (u6) ⟨⟨⟨⟨⟨⟨⟨⟨⟨hG42, ⟨j_70, j_71, j_72, j_73⟩, ⟨j_74, j_75, p_43, j_76, j_77⟩, by omega, by omega⟩, j_78, j_79⟩, j_82, by omega⟩, AN_a z_51⟩, by omega⟩, j_83⟩, by omega⟩, z_51⟩, j_80, j_81⟩ (by omega) (by omega)
