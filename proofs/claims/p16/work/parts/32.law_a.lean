theorem tg_363 {M M1 : mm_M} (F : FR (fun a i : Nat => a = 77 ∧ (i = 1 ∨ i = 2) ∨ a = 78) M M1) : ∀ a i : Nat, PI_r a → M1.2.1 a i = M.2.1 a i := fun a i z => F_n F (show ¬ (a = 77 ∧ (i = 1 ∨ i = 2) ∨ a = 78) by omega) rfl
theorem tg_364 {M M1 : mm_M} (F : FR (fun a i : Nat => a = 1 ∧ i = 1 ∨ a = 2) M M1) : ∀ a i : Nat, PI_r a → M1.2.1 a i = M.2.1 a i := fun a i z => F_n F (show ¬ (a = 1 ∧ i = 1 ∨ a = 2) by omega) rfl
theorem tg_365 {M M1 : mm_M} (F : FR (fun a i : Nat => a = 77 ∧ (i = 1 ∨ i = 2) ∨ a = 78) M M1) : ∀ a i : Nat, (7 ≤ a ∧ a ≤ 9) → M1.2.1 a i = M.2.1 a i := fun a i z => F_n F (show ¬ (a = 77 ∧ (i = 1 ∨ i = 2) ∨ a = 78) by omega) rfl
theorem tg_366 {M M1 : mm_M} (F : FR (fun a i : Nat => a = 1 ∧ i = 1 ∨ a = 2) M M1) : ∀ a i : Nat, (7 ≤ a ∧ a ≤ 9) → M1.2.1 a i = M.2.1 a i := fun a i z => F_n F (show ¬ (a = 1 ∧ i = 1 ∨ a = 2) by omega) rfl
theorem tg_367 {M M1 : mm_M} (F : FR (fun a i : Nat => a = 77 ∧ (i = 1 ∨ i = 2) ∨ a = 78) M M1) : ∀ a i : Nat, (a = 68 ∨ a = 69 ∨ a = 73 ∨ a = 74) → M1.2.1 a i = M.2.1 a i := fun a i z => F_n F (show ¬ (a = 77 ∧ (i = 1 ∨ i = 2) ∨ a = 78) by omega) rfl
theorem tg_368 {M M1 : mm_M} (F : FR (fun a i : Nat => a = 1 ∧ i = 1 ∨ a = 2) M M1) : ∀ a i : Nat, (a = 68 ∨ a = 69 ∨ a = 73 ∨ a = 74) → M1.2.1 a i = M.2.1 a i := fun a i z => F_n F (show ¬ (a = 1 ∧ i = 1 ∨ a = 2) by omega) rfl
theorem tg_369 {M M1 : mm_M} (F : FR (fun a i : Nat => a = 77 ∧ (i = 1 ∨ i = 2) ∨ a = 78) M M1) : ∀ a i : Nat, (81 ≤ a ∧ a ≤ 84) → M1.2.1 a i = M.2.1 a i := fun a i z => F_n F (show ¬ (a = 77 ∧ (i = 1 ∨ i = 2) ∨ a = 78) by omega) rfl
theorem tg_370 {M M1 : mm_M} (F : FR (fun a i : Nat => a = 1 ∧ i = 1 ∨ a = 2) M M1) : ∀ a i : Nat, (81 ≤ a ∧ a ≤ 84) → M1.2.1 a i = M.2.1 a i := fun a i z => F_n F (show ¬ (a = 1 ∧ i = 1 ∨ a = 2) by omega) rfl
theorem tg_371 {M M1 : mm_M} (F : FR (fun a i : Nat => a = 77 ∧ (i = 1 ∨ i = 2) ∨ a = 78) M M1) : ∀ a i : Nat, WC_r a i → M1.2.1 a i = M.2.1 a i := fun a i z => F_n F (show ¬ (a = 77 ∧ (i = 1 ∨ i = 2) ∨ a = 78) by omega) rfl
theorem tg_372 {M M1 : mm_M} (F : FR (fun a i : Nat => a = 1 ∧ i = 1 ∨ a = 2) M M1) : ∀ a i : Nat, WC_r a i → M1.2.1 a i = M.2.1 a i := fun a i z => F_n F (show ¬ (a = 1 ∧ i = 1 ∨ a = 2) by omega) rfl
theorem tg_373 {M M1 : mm_M} (F : FR (fun a i : Nat => a = 77 ∧ (i = 1 ∨ i = 2) ∨ a = 78) M M1) : ∀ a i : Nat, NJ_r a i → M1.2.1 a i = M.2.1 a i := fun a i z => F_n F (show ¬ (a = 77 ∧ (i = 1 ∨ i = 2) ∨ a = 78) by omega) rfl
theorem tg_374 {M M1 : mm_M} (F : FR (fun a i : Nat => a = 1 ∧ i = 1 ∨ a = 2) M M1) : ∀ a i : Nat, NJ_r a i → M1.2.1 a i = M.2.1 a i := fun a i z => F_n F (show ¬ (a = 1 ∧ i = 1 ∨ a = 2) by omega) rfl
theorem tg_375 {M M1 : mm_M} (F : FR (fun a i : Nat => a = 77 ∧ (i = 1 ∨ i = 2) ∨ a = 78) M M1) : ∀ a i : Nat, (a = 100 ∨ a = 77 ∧ i = 28) → M1.2.1 a i = M.2.1 a i := fun a i z => F_n F (show ¬ (a = 77 ∧ (i = 1 ∨ i = 2) ∨ a = 78) by omega) rfl
theorem tg_376 {M M1 : mm_M} (F : FR (fun a i : Nat => a = 1 ∧ i = 1 ∨ a = 2) M M1) : ∀ a i : Nat, (a = 100 ∨ a = 77 ∧ i = 28) → M1.2.1 a i = M.2.1 a i := fun a i z => F_n F (show ¬ (a = 1 ∧ i = 1 ∨ a = 2) by omega) rfl
theorem tg_377 {M M1 : mm_M} (F : FR (fun a i : Nat => a = 77 ∧ (i = 1 ∨ i = 2) ∨ a = 78) M M1) : ∀ a i : Nat, KQ_r a i → M1.2.1 a i = M.2.1 a i := fun a i z => F_n F (show ¬ (a = 77 ∧ (i = 1 ∨ i = 2) ∨ a = 78) by omega) rfl
theorem tg_378 {M M1 : mm_M} (F : FR (fun a i : Nat => a = 1 ∧ i = 1 ∨ a = 2) M M1) : ∀ a i : Nat, KQ_r a i → M1.2.1 a i = M.2.1 a i := fun a i z => F_n F (show ¬ (a = 1 ∧ i = 1 ∨ a = 2) by omega) rfl
theorem tg_379 {M M1 : mm_M} (F : FR (fun a i : Nat => a = 77 ∧ (i = 1 ∨ i = 2) ∨ a = 78) M M1) : ∀ a i : Nat, a = 79 → M1.2.1 a i = M.2.1 a i := fun a i z => F_n F (show ¬ (a = 77 ∧ (i = 1 ∨ i = 2) ∨ a = 78) by omega) rfl
theorem tg_380 {M M1 : mm_M} (F : FR (fun a i : Nat => a = 1 ∧ i = 1 ∨ a = 2) M M1) : ∀ a i : Nat, a = 79 → M1.2.1 a i = M.2.1 a i := fun a i z => F_n F (show ¬ (a = 1 ∧ i = 1 ∨ a = 2) by omega) rfl
theorem tg_381 {M M1 : mm_M} (F : FR (fun a i : Nat => a = 77 ∧ (i = 1 ∨ i = 2) ∨ a = 78) M M1) : ∀ a i : Nat, 88 ≤ a ∧ a ≤ 89 → M1.2.1 a i = M.2.1 a i := fun a i z => F_n F (show ¬ (a = 77 ∧ (i = 1 ∨ i = 2) ∨ a = 78) by omega) rfl
theorem tg_382 {M M1 : mm_M} (F : FR (fun a i : Nat => a = 1 ∧ i = 1 ∨ a = 2) M M1) : ∀ a i : Nat, 88 ≤ a ∧ a ≤ 89 → M1.2.1 a i = M.2.1 a i := fun a i z => F_n F (show ¬ (a = 1 ∧ i = 1 ∨ a = 2) by omega) rfl
theorem tg_383 {M M1 : mm_M} (F : FRX (fun a i : Nat => a ≤ 76 ∧ ¬ a = 2) M M1) : ∀ a i : Nat, (81 ≤ a ∧ a ≤ 84) → M1.2.1 a i = M.2.1 a i := fun a i z => Fx_n F (show ¬ (a ≤ 76 ∧ ¬ a = 2) by omega) rfl
theorem tg_384 {M M1 : mm_M} (F : FRX (fun a i : Nat => a ≤ 76 ∧ ¬ a = 2) M M1) : ∀ a i : Nat, WC_r a i → M1.2.1 a i = M.2.1 a i := fun a i z => Fx_n F (show ¬ (a ≤ 76 ∧ ¬ a = 2) by omega) rfl
theorem tg_385 {M M1 : mm_M} (F : FRX (fun a i : Nat => a ≤ 76 ∧ ¬ a = 2) M M1) : ∀ a i : Nat, NJ_r a i → M1.2.1 a i = M.2.1 a i := fun a i z => Fx_n F (show ¬ (a ≤ 76 ∧ ¬ a = 2) by omega) rfl
theorem tg_386 {M M1 : mm_M} (F : FRX (fun a i : Nat => a ≤ 76 ∧ ¬ a = 2) M M1) : ∀ a i : Nat, (a = 100 ∨ a = 77 ∧ i = 28) → M1.2.1 a i = M.2.1 a i := fun a i z => Fx_n F (show ¬ (a ≤ 76 ∧ ¬ a = 2) by omega) rfl
theorem tg_387 {M M1 : mm_M} (F : FRX (fun a i : Nat => a ≤ 76 ∧ ¬ a = 2) M M1) : ∀ a i : Nat, KQ_r a i → M1.2.1 a i = M.2.1 a i := fun a i z => Fx_n F (show ¬ (a ≤ 76 ∧ ¬ a = 2) by omega) rfl
theorem tg_388 {M M1 : mm_M} (F : FRX (fun a i : Nat => a ≤ 76 ∧ ¬ a = 2) M M1) : ∀ a i : Nat, a = 78 → M1.2.1 a i = M.2.1 a i := fun a i z => Fx_n F (show ¬ (a ≤ 76 ∧ ¬ a = 2) by omega) rfl
theorem tg_389 {M M1 : mm_M} (F : FRX (fun a i : Nat => a ≤ 76 ∧ ¬ a = 2) M M1) : ∀ a i : Nat, a = 79 → M1.2.1 a i = M.2.1 a i := fun a i z => Fx_n F (show ¬ (a ≤ 76 ∧ ¬ a = 2) by omega) rfl
theorem tg_390 {M M1 : mm_M} (F : FR (fun a i : Nat => a = 77 ∨ 79 < a ∧ a ≤ 87 ∨ a = 100) M M1) : ∀ a i : Nat, PI_r a → M1.2.1 a i = M.2.1 a i := fun a i z => F_n F (show ¬ (a = 77 ∨ 79 < a ∧ a ≤ 87 ∨ a = 100) by omega) rfl
theorem tg_391 {M M1 : mm_M} (F : FR (fun a i : Nat => a = 77 ∨ 79 < a ∧ a ≤ 87 ∨ a = 100) M M1) : ∀ a i : Nat, (7 ≤ a ∧ a ≤ 9) → M1.2.1 a i = M.2.1 a i := fun a i z => F_n F (show ¬ (a = 77 ∨ 79 < a ∧ a ≤ 87 ∨ a = 100) by omega) rfl
theorem tg_392 {M M1 : mm_M} (F : FR (fun a i : Nat => a = 77 ∨ 79 < a ∧ a ≤ 87 ∨ a = 100) M M1) : ∀ a i : Nat, (a = 68 ∨ a = 69 ∨ a = 73 ∨ a = 74) → M1.2.1 a i = M.2.1 a i := fun a i z => F_n F (show ¬ (a = 77 ∨ 79 < a ∧ a ≤ 87 ∨ a = 100) by omega) rfl
theorem tg_393 {M M1 : mm_M} (F : FR (fun a i : Nat => a = 77 ∨ 79 < a ∧ a ≤ 87 ∨ a = 100) M M1) : ∀ a i : Nat, (a = 1 ∧ i = 1 ∨ a = 2 ∨ a = 78) → M1.2.1 a i = M.2.1 a i := fun a i z => F_n F (show ¬ (a = 77 ∨ 79 < a ∧ a ≤ 87 ∨ a = 100) by omega) rfl
theorem tg_394 {M M1 : mm_M} (F : FR (fun a i : Nat => a = 77 ∨ 79 < a ∧ a ≤ 87 ∨ a = 100) M M1) : ∀ a i : Nat, a = 79 → M1.2.1 a i = M.2.1 a i := fun a i z => F_n F (show ¬ (a = 77 ∨ 79 < a ∧ a ≤ 87 ∨ a = 100) by omega) rfl
theorem tg_395 {M M1 : mm_M} (F : FR (fun a i : Nat => a = 77 ∨ 79 < a ∧ a ≤ 87 ∨ a = 100) M M1) : ∀ a i : Nat, 88 ≤ a ∧ a ≤ 89 → M1.2.1 a i = M.2.1 a i := fun a i z => F_n F (show ¬ (a = 77 ∨ 79 < a ∧ a ≤ 87 ∨ a = 100) by omega) rfl
theorem tg_396 {M M1 : mm_M} (F : FRX (fun a i : Nat => a ≤ 76 ∧ ¬ a = 2) M M1) : ∀ a i : Nat, 88 ≤ a ∧ a ≤ 89 → M1.2.1 a i = M.2.1 a i := fun a i z => Fx_n F (show ¬ (a ≤ 76 ∧ ¬ a = 2) by omega) rfl
theorem tg_397 {M M1 : mm_M} (F : FR (fun a i : Nat => a = 1 ∨ 3 ≤ a ∧ a ≤ 5 ∨ 11 ≤ a ∧ a ≤ 16 ∨ 18 ≤ a ∧ a ≤ 48) M M1) : ∀ a i : Nat, (81 ≤ a ∧ a ≤ 84) → M1.2.1 a i = M.2.1 a i := fun a i z => F_n F (show ¬ (a = 1 ∨ 3 ≤ a ∧ a ≤ 5 ∨ 11 ≤ a ∧ a ≤ 16 ∨ 18 ≤ a ∧ a ≤ 48) by omega) rfl
theorem tg_398 {M M1 : mm_M} (F : FR (fun a i : Nat => a = 1 ∨ 3 ≤ a ∧ a ≤ 5 ∨ 11 ≤ a ∧ a ≤ 16 ∨ 18 ≤ a ∧ a ≤ 48) M M1) : ∀ a i : Nat, WC_r a i → M1.2.1 a i = M.2.1 a i := fun a i z => F_n F (show ¬ (a = 1 ∨ 3 ≤ a ∧ a ≤ 5 ∨ 11 ≤ a ∧ a ≤ 16 ∨ 18 ≤ a ∧ a ≤ 48) by omega) rfl
theorem tg_399 {M M1 : mm_M} (F : FR (fun a i : Nat => a = 1 ∨ 3 ≤ a ∧ a ≤ 5 ∨ 11 ≤ a ∧ a ≤ 16 ∨ 18 ≤ a ∧ a ≤ 48) M M1) : ∀ a i : Nat, NJ_r a i → M1.2.1 a i = M.2.1 a i := fun a i z => F_n F (show ¬ (a = 1 ∨ 3 ≤ a ∧ a ≤ 5 ∨ 11 ≤ a ∧ a ≤ 16 ∨ 18 ≤ a ∧ a ≤ 48) by omega) rfl
theorem tg_400 {M M1 : mm_M} (F : FR (fun a i : Nat => a = 1 ∨ 3 ≤ a ∧ a ≤ 5 ∨ 11 ≤ a ∧ a ≤ 16 ∨ 18 ≤ a ∧ a ≤ 48) M M1) : ∀ a i : Nat, (a = 100 ∨ a = 77 ∧ i = 28) → M1.2.1 a i = M.2.1 a i := fun a i z => F_n F (show ¬ (a = 1 ∨ 3 ≤ a ∧ a ≤ 5 ∨ 11 ≤ a ∧ a ≤ 16 ∨ 18 ≤ a ∧ a ≤ 48) by omega) rfl
theorem tg_401 {M M1 : mm_M} (F : FR (fun a i : Nat => a = 1 ∨ 3 ≤ a ∧ a ≤ 5 ∨ 11 ≤ a ∧ a ≤ 16 ∨ 18 ≤ a ∧ a ≤ 48) M M1) : ∀ a i : Nat, KQ_r a i → M1.2.1 a i = M.2.1 a i := fun a i z => F_n F (show ¬ (a = 1 ∨ 3 ≤ a ∧ a ≤ 5 ∨ 11 ≤ a ∧ a ≤ 16 ∨ 18 ≤ a ∧ a ≤ 48) by omega) rfl
theorem tg_402 {M M1 : mm_M} (F : FR (fun a i : Nat => a = 77 ∧ (1 ≤ i ∧ i ≤ 2 ∨ 4 ≤ i ∧ i ≤ 10 ∨ 42 ≤ i ∧ i ≤ 44 ∨ i = 52) ∨ 94 ≤ a ∧ a ≤ 111) M M1) : ∀ a i : Nat, PI_r a → M1.2.1 a i = M.2.1 a i := fun a i z => F_n F (show ¬ (a = 77 ∧ (1 ≤ i ∧ i ≤ 2 ∨ 4 ≤ i ∧ i ≤ 10 ∨ 42 ≤ i ∧ i ≤ 44 ∨ i = 52) ∨ 94 ≤ a ∧ a ≤ 111) by omega) rfl
theorem tg_403 {M M1 : mm_M} (F : FR (fun a i : Nat => a = 77 ∧ (1 ≤ i ∧ i ≤ 2 ∨ 4 ≤ i ∧ i ≤ 10 ∨ 42 ≤ i ∧ i ≤ 44 ∨ i = 52) ∨ 94 ≤ a ∧ a ≤ 111) M M1) : ∀ a i : Nat, (7 ≤ a ∧ a ≤ 9) → M1.2.1 a i = M.2.1 a i := fun a i z => F_n F (show ¬ (a = 77 ∧ (1 ≤ i ∧ i ≤ 2 ∨ 4 ≤ i ∧ i ≤ 10 ∨ 42 ≤ i ∧ i ≤ 44 ∨ i = 52) ∨ 94 ≤ a ∧ a ≤ 111) by omega) rfl
theorem tg_404 {M M1 : mm_M} (F : FR (fun a i : Nat => a = 77 ∧ (1 ≤ i ∧ i ≤ 2 ∨ 4 ≤ i ∧ i ≤ 10 ∨ 42 ≤ i ∧ i ≤ 44 ∨ i = 52) ∨ 94 ≤ a ∧ a ≤ 111) M M1) : ∀ a i : Nat, (a = 68 ∨ a = 69 ∨ a = 73 ∨ a = 74) → M1.2.1 a i = M.2.1 a i := fun a i z => F_n F (show ¬ (a = 77 ∧ (1 ≤ i ∧ i ≤ 2 ∨ 4 ≤ i ∧ i ≤ 10 ∨ 42 ≤ i ∧ i ≤ 44 ∨ i = 52) ∨ 94 ≤ a ∧ a ≤ 111) by omega) rfl
theorem tg_405 {M M1 : mm_M} (F : FR (fun a i : Nat => a = 77 ∧ (1 ≤ i ∧ i ≤ 2 ∨ 4 ≤ i ∧ i ≤ 10 ∨ 42 ≤ i ∧ i ≤ 44 ∨ i = 52) ∨ 94 ≤ a ∧ a ≤ 111) M M1) : ∀ a i : Nat, (a = 1 ∧ i = 1 ∨ a = 2 ∨ a = 78) → M1.2.1 a i = M.2.1 a i := fun a i z => F_n F (show ¬ (a = 77 ∧ (1 ≤ i ∧ i ≤ 2 ∨ 4 ≤ i ∧ i ≤ 10 ∨ 42 ≤ i ∧ i ≤ 44 ∨ i = 52) ∨ 94 ≤ a ∧ a ≤ 111) by omega) rfl
theorem tg_406 {M M1 : mm_M} (F : FR (fun a i : Nat => a = 77 ∧ (1 ≤ i ∧ i ≤ 2 ∨ 4 ≤ i ∧ i ≤ 10 ∨ 42 ≤ i ∧ i ≤ 44 ∨ i = 52) ∨ 94 ≤ a ∧ a ≤ 111) M M1) : ∀ a i : Nat, a = 79 → M1.2.1 a i = M.2.1 a i := fun a i z => F_n F (show ¬ (a = 77 ∧ (1 ≤ i ∧ i ≤ 2 ∨ 4 ≤ i ∧ i ≤ 10 ∨ 42 ≤ i ∧ i ≤ 44 ∨ i = 52) ∨ 94 ≤ a ∧ a ≤ 111) by omega) rfl
theorem tg_407 {M M1 : mm_M} (F : FR (fun a i : Nat => a = 1 ∨ 3 ≤ a ∧ a ≤ 5 ∨ 11 ≤ a ∧ a ≤ 16 ∨ 18 ≤ a ∧ a ≤ 48) M M1) : ∀ a i : Nat, a = 79 → M1.2.1 a i = M.2.1 a i := fun a i z => F_n F (show ¬ (a = 1 ∨ 3 ≤ a ∧ a ≤ 5 ∨ 11 ≤ a ∧ a ≤ 16 ∨ 18 ≤ a ∧ a ≤ 48) by omega) rfl
theorem tg_408 {M M1 : mm_M} (F : FR (fun a i : Nat => a = 77 ∧ (1 ≤ i ∧ i ≤ 2 ∨ 4 ≤ i ∧ i ≤ 10 ∨ 42 ≤ i ∧ i ≤ 44 ∨ i = 52) ∨ 94 ≤ a ∧ a ≤ 111) M M1) : ∀ a i : Nat, 88 ≤ a ∧ a ≤ 89 → M1.2.1 a i = M.2.1 a i := fun a i z => F_n F (show ¬ (a = 77 ∧ (1 ≤ i ∧ i ≤ 2 ∨ 4 ≤ i ∧ i ≤ 10 ∨ 42 ≤ i ∧ i ≤ 44 ∨ i = 52) ∨ 94 ≤ a ∧ a ≤ 111) by omega) rfl
theorem tg_409 {M M1 : mm_M} (F : FR (fun a i : Nat => a = 1 ∨ 3 ≤ a ∧ a ≤ 5 ∨ 11 ≤ a ∧ a ≤ 16 ∨ 18 ≤ a ∧ a ≤ 48) M M1) : ∀ a i : Nat, 88 ≤ a ∧ a ≤ 89 → M1.2.1 a i = M.2.1 a i := fun a i z => F_n F (show ¬ (a = 1 ∨ 3 ≤ a ∧ a ≤ 5 ∨ 11 ≤ a ∧ a ≤ 16 ∨ 18 ≤ a ∧ a ≤ 48) by omega) rfl
theorem tg_410 {M M1 : mm_M} (F : FRX (fun a i : Nat => a = 1 ∨ 3 ≤ a ∧ a ≤ 5 ∨ 67 ≤ a ∧ a ≤ 76) M M1) : ∀ a i : Nat, (81 ≤ a ∧ a ≤ 84) → M1.2.1 a i = M.2.1 a i := fun a i z => Fx_n F (show ¬ (a = 1 ∨ 3 ≤ a ∧ a ≤ 5 ∨ 67 ≤ a ∧ a ≤ 76) by omega) rfl
theorem tg_411 {M M1 : mm_M} (F : FRX (fun a i : Nat => a = 1 ∨ 3 ≤ a ∧ a ≤ 5 ∨ 67 ≤ a ∧ a ≤ 76) M M1) : ∀ a i : Nat, WC_r a i → M1.2.1 a i = M.2.1 a i := fun a i z => Fx_n F (show ¬ (a = 1 ∨ 3 ≤ a ∧ a ≤ 5 ∨ 67 ≤ a ∧ a ≤ 76) by omega) rfl
theorem tg_412 {M M1 : mm_M} (F : FRX (fun a i : Nat => a = 1 ∨ 3 ≤ a ∧ a ≤ 5 ∨ 67 ≤ a ∧ a ≤ 76) M M1) : ∀ a i : Nat, NJ_r a i → M1.2.1 a i = M.2.1 a i := fun a i z => Fx_n F (show ¬ (a = 1 ∨ 3 ≤ a ∧ a ≤ 5 ∨ 67 ≤ a ∧ a ≤ 76) by omega) rfl
theorem tg_413 {M M1 : mm_M} (F : FRX (fun a i : Nat => a = 1 ∨ 3 ≤ a ∧ a ≤ 5 ∨ 67 ≤ a ∧ a ≤ 76) M M1) : ∀ a i : Nat, (a = 100 ∨ a = 77 ∧ i = 28) → M1.2.1 a i = M.2.1 a i := fun a i z => Fx_n F (show ¬ (a = 1 ∨ 3 ≤ a ∧ a ≤ 5 ∨ 67 ≤ a ∧ a ≤ 76) by omega) rfl
theorem tg_414 {M M1 : mm_M} (F : FRX (fun a i : Nat => a = 1 ∨ 3 ≤ a ∧ a ≤ 5 ∨ 67 ≤ a ∧ a ≤ 76) M M1) : ∀ a i : Nat, KQ_r a i → M1.2.1 a i = M.2.1 a i := fun a i z => Fx_n F (show ¬ (a = 1 ∨ 3 ≤ a ∧ a ≤ 5 ∨ 67 ≤ a ∧ a ≤ 76) by omega) rfl
theorem tg_415 {M M1 : mm_M} (F : FR (fun a i : Nat => a = 77 ∧ (1 ≤ i ∧ i ≤ 2 ∨ 4 ≤ i ∧ i ≤ 10 ∨ 57 ≤ i ∧ i ≤ 59 ∨ 65 ≤ i ∧ i ≤ 69) ∨ 112 ≤ a ∧ a ≤ 116) M M1) : ∀ a i : Nat, PI_r a → M1.2.1 a i = M.2.1 a i := fun a i z => F_n F (show ¬ (a = 77 ∧ (1 ≤ i ∧ i ≤ 2 ∨ 4 ≤ i ∧ i ≤ 10 ∨ 57 ≤ i ∧ i ≤ 59 ∨ 65 ≤ i ∧ i ≤ 69) ∨ 112 ≤ a ∧ a ≤ 116) by omega) rfl
theorem tg_416 {M M1 : mm_M} (F : FR (fun a i : Nat => a = 77 ∧ (1 ≤ i ∧ i ≤ 2 ∨ 4 ≤ i ∧ i ≤ 10 ∨ 57 ≤ i ∧ i ≤ 59 ∨ 65 ≤ i ∧ i ≤ 69) ∨ 112 ≤ a ∧ a ≤ 116) M M1) : ∀ a i : Nat, (7 ≤ a ∧ a ≤ 9) → M1.2.1 a i = M.2.1 a i := fun a i z => F_n F (show ¬ (a = 77 ∧ (1 ≤ i ∧ i ≤ 2 ∨ 4 ≤ i ∧ i ≤ 10 ∨ 57 ≤ i ∧ i ≤ 59 ∨ 65 ≤ i ∧ i ≤ 69) ∨ 112 ≤ a ∧ a ≤ 116) by omega) rfl
theorem tg_417 {M M1 : mm_M} (F : FR (fun a i : Nat => a = 77 ∧ (1 ≤ i ∧ i ≤ 2 ∨ 4 ≤ i ∧ i ≤ 10 ∨ 57 ≤ i ∧ i ≤ 59 ∨ 65 ≤ i ∧ i ≤ 69) ∨ 112 ≤ a ∧ a ≤ 116) M M1) : ∀ a i : Nat, (a = 68 ∨ a = 69 ∨ a = 73 ∨ a = 74) → M1.2.1 a i = M.2.1 a i := fun a i z => F_n F (show ¬ (a = 77 ∧ (1 ≤ i ∧ i ≤ 2 ∨ 4 ≤ i ∧ i ≤ 10 ∨ 57 ≤ i ∧ i ≤ 59 ∨ 65 ≤ i ∧ i ≤ 69) ∨ 112 ≤ a ∧ a ≤ 116) by omega) rfl
theorem tg_418 {M M1 : mm_M} (F : FR (fun a i : Nat => a = 77 ∧ (1 ≤ i ∧ i ≤ 2 ∨ 4 ≤ i ∧ i ≤ 10 ∨ 57 ≤ i ∧ i ≤ 59 ∨ 65 ≤ i ∧ i ≤ 69) ∨ 112 ≤ a ∧ a ≤ 116) M M1) : ∀ a i : Nat, (a = 1 ∧ i = 1 ∨ a = 2 ∨ a = 78) → M1.2.1 a i = M.2.1 a i := fun a i z => F_n F (show ¬ (a = 77 ∧ (1 ≤ i ∧ i ≤ 2 ∨ 4 ≤ i ∧ i ≤ 10 ∨ 57 ≤ i ∧ i ≤ 59 ∨ 65 ≤ i ∧ i ≤ 69) ∨ 112 ≤ a ∧ a ≤ 116) by omega) rfl
theorem tg_419 {M M1 : mm_M} (F : FR (fun a i : Nat => a = 77 ∧ (1 ≤ i ∧ i ≤ 2 ∨ 4 ≤ i ∧ i ≤ 10 ∨ 57 ≤ i ∧ i ≤ 59 ∨ 65 ≤ i ∧ i ≤ 69) ∨ 112 ≤ a ∧ a ≤ 116) M M1) : ∀ a i : Nat, a = 79 → M1.2.1 a i = M.2.1 a i := fun a i z => F_n F (show ¬ (a = 77 ∧ (1 ≤ i ∧ i ≤ 2 ∨ 4 ≤ i ∧ i ≤ 10 ∨ 57 ≤ i ∧ i ≤ 59 ∨ 65 ≤ i ∧ i ≤ 69) ∨ 112 ≤ a ∧ a ≤ 116) by omega) rfl
theorem tg_420 {M M1 : mm_M} (F : FRX (fun a i : Nat => a = 1 ∨ 3 ≤ a ∧ a ≤ 5 ∨ 67 ≤ a ∧ a ≤ 76) M M1) : ∀ a i : Nat, a = 79 → M1.2.1 a i = M.2.1 a i := fun a i z => Fx_n F (show ¬ (a = 1 ∨ 3 ≤ a ∧ a ≤ 5 ∨ 67 ≤ a ∧ a ≤ 76) by omega) rfl
theorem tg_421 {M M1 : mm_M} (F : FR (fun a i : Nat => a = 77 ∧ (1 ≤ i ∧ i ≤ 2 ∨ 4 ≤ i ∧ i ≤ 10 ∨ 57 ≤ i ∧ i ≤ 59 ∨ 65 ≤ i ∧ i ≤ 69) ∨ 112 ≤ a ∧ a ≤ 116) M M1) : ∀ a i : Nat, 88 ≤ a ∧ a ≤ 89 → M1.2.1 a i = M.2.1 a i := fun a i z => F_n F (show ¬ (a = 77 ∧ (1 ≤ i ∧ i ≤ 2 ∨ 4 ≤ i ∧ i ≤ 10 ∨ 57 ≤ i ∧ i ≤ 59 ∨ 65 ≤ i ∧ i ≤ 69) ∨ 112 ≤ a ∧ a ≤ 116) by omega) rfl
theorem tg_422 {M M1 : mm_M} (F : FRX (fun a i : Nat => a = 1 ∨ 3 ≤ a ∧ a ≤ 5 ∨ 67 ≤ a ∧ a ≤ 76) M M1) : ∀ a i : Nat, 88 ≤ a ∧ a ≤ 89 → M1.2.1 a i = M.2.1 a i := fun a i z => Fx_n F (show ¬ (a = 1 ∨ 3 ≤ a ∧ a ≤ 5 ∨ 67 ≤ a ∧ a ≤ 76) by omega) rfl
theorem tg_423 {M M1 : mm_M} (F : FR (fun a i : Nat => a = 77 ∧ i = 2) M M1) : ∀ a i : Nat, PI_r a → M1.2.1 a i = M.2.1 a i := fun a i z => F_n F (show ¬ (a = 77 ∧ i = 2) by omega) rfl
theorem tg_424 {M M1 : mm_M} (F : FR (fun a i : Nat => a = 77 ∧ i = 2) M M1) : ∀ a i : Nat, (7 ≤ a ∧ a ≤ 9) → M1.2.1 a i = M.2.1 a i := fun a i z => F_n F (show ¬ (a = 77 ∧ i = 2) by omega) rfl
theorem tg_425 {M M1 : mm_M} (F : FR (fun a i : Nat => a = 77 ∧ i = 2) M M1) : ∀ a i : Nat, (a = 68 ∨ a = 69 ∨ a = 73 ∨ a = 74) → M1.2.1 a i = M.2.1 a i := fun a i z => F_n F (show ¬ (a = 77 ∧ i = 2) by omega) rfl
theorem tg_426 {M M1 : mm_M} (F : FR (fun a i : Nat => a = 77 ∧ i = 2) M M1) : ∀ a i : Nat, (81 ≤ a ∧ a ≤ 84) → M1.2.1 a i = M.2.1 a i := fun a i z => F_n F (show ¬ (a = 77 ∧ i = 2) by omega) rfl
theorem tg_427 {M M1 : mm_M} (F : FR (fun a i : Nat => a = 77 ∧ i = 2) M M1) : ∀ a i : Nat, WC_r a i → M1.2.1 a i = M.2.1 a i := fun a i z => F_n F (show ¬ (a = 77 ∧ i = 2) by omega) rfl
theorem tg_428 {M M1 : mm_M} (F : FR (fun a i : Nat => a < 0) M M1) : ∀ a i : Nat, WC_r a i → M1.2.1 a i = M.2.1 a i := fun a i z => F_n F (show ¬ (a < 0) by omega) rfl
theorem tg_429 {M M1 : mm_M} (F : FR (fun a i : Nat => a = 77 ∧ i = 2) M M1) : ∀ a i : Nat, NJ_r a i → M1.2.1 a i = M.2.1 a i := fun a i z => F_n F (show ¬ (a = 77 ∧ i = 2) by omega) rfl
theorem tg_430 {M M1 : mm_M} (F : FR (fun a i : Nat => a = 77 ∧ i = 2) M M1) : ∀ a i : Nat, (a = 100 ∨ a = 77 ∧ i = 28) → M1.2.1 a i = M.2.1 a i := fun a i z => F_n F (show ¬ (a = 77 ∧ i = 2) by omega) rfl
theorem tg_431 {M M1 : mm_M} (F : FR (fun a i : Nat => a < 0) M M1) : ∀ a i : Nat, (a = 100 ∨ a = 77 ∧ i = 28) → M1.2.1 a i = M.2.1 a i := fun a i z => F_n F (show ¬ (a < 0) by omega) rfl
theorem tg_432 {M M1 : mm_M} (F : FR (fun a i : Nat => a = 77 ∧ i = 2) M M1) : ∀ a i : Nat, KQ_r a i → M1.2.1 a i = M.2.1 a i := fun a i z => F_n F (show ¬ (a = 77 ∧ i = 2) by omega) rfl
theorem tg_433 {M M1 : mm_M} (F : FR (fun a i : Nat => a = 77 ∧ i = 2) M M1) : ∀ a i : Nat, (a = 1 ∧ i = 1 ∨ a = 2 ∨ a = 78) → M1.2.1 a i = M.2.1 a i := fun a i z => F_n F (show ¬ (a = 77 ∧ i = 2) by omega) rfl
theorem tg_434 {M M1 : mm_M} (F : FR (fun a i : Nat => a < 0) M M1) : ∀ a i : Nat, (a = 1 ∧ i = 1 ∨ a = 2 ∨ a = 78) → M1.2.1 a i = M.2.1 a i := fun a i z => F_n F (show ¬ (a < 0) by omega) rfl
theorem tg_435 {M M1 : mm_M} (F : FR (fun a i : Nat => a = 77 ∧ i = 2) M M1) : ∀ a i : Nat, a = 79 → M1.2.1 a i = M.2.1 a i := fun a i z => F_n F (show ¬ (a = 77 ∧ i = 2) by omega) rfl
theorem tg_436 {M M1 : mm_M} (F : FR (fun a i : Nat => a = 77 ∧ i = 2) M M1) : ∀ a i : Nat, 88 ≤ a ∧ a ≤ 89 → M1.2.1 a i = M.2.1 a i := fun a i z => F_n F (show ¬ (a = 77 ∧ i = 2) by omega) rfl
theorem tg_437 {M M1 : mm_M} (F : FR (fun a i : Nat => a < 0) M M1) : ∀ a i : Nat, 88 ≤ a ∧ a ≤ 89 → M1.2.1 a i = M.2.1 a i := fun a i z => F_n F (show ¬ (a < 0) by omega) rfl
theorem tg_438 {M M1 : mm_M} (F : FR (fun a i : Nat => 11 ≤ a ∧ a ≤ 16 ∨ 18 ≤ a ∧ a ≤ 48 ∨ 67 ≤ a ∧ a ≤ 76) M M1) : ∀ a i : Nat, NJ_r a i → M1.2.1 a i = M.2.1 a i := fun a i z => F_n F (show ¬ (11 ≤ a ∧ a ≤ 16 ∨ 18 ≤ a ∧ a ≤ 48 ∨ 67 ≤ a ∧ a ≤ 76) by omega) rfl
theorem tg_439 {M M1 : mm_M} (F : FR (fun a i : Nat => a = 77 ∧ i = 2 ∨ 94 ≤ a ∧ a ≤ 98) M M1) : ∀ a i : Nat, PI_r a → M1.2.1 a i = M.2.1 a i := fun a i z => F_n F (show ¬ (a = 77 ∧ i = 2 ∨ 94 ≤ a ∧ a ≤ 98) by omega) rfl
theorem tg_440 {M M1 : mm_M} (F : FR (fun a i : Nat => a = 77 ∧ i = 2 ∨ 94 ≤ a ∧ a ≤ 98) M M1) : ∀ a i : Nat, (7 ≤ a ∧ a ≤ 9) → M1.2.1 a i = M.2.1 a i := fun a i z => F_n F (show ¬ (a = 77 ∧ i = 2 ∨ 94 ≤ a ∧ a ≤ 98) by omega) rfl
theorem tg_441 {M M1 : mm_M} (F : FR (fun a i : Nat => a = 77 ∧ i = 2 ∨ 94 ≤ a ∧ a ≤ 98) M M1) : ∀ a i : Nat, (a = 68 ∨ a = 69 ∨ a = 73 ∨ a = 74) → M1.2.1 a i = M.2.1 a i := fun a i z => F_n F (show ¬ (a = 77 ∧ i = 2 ∨ 94 ≤ a ∧ a ≤ 98) by omega) rfl
theorem tg_442 {M M1 : mm_M} (F : FR (fun a i : Nat => a = 77 ∧ i = 2 ∨ 94 ≤ a ∧ a ≤ 98) M M1) : ∀ a i : Nat, (81 ≤ a ∧ a ≤ 84) → M1.2.1 a i = M.2.1 a i := fun a i z => F_n F (show ¬ (a = 77 ∧ i = 2 ∨ 94 ≤ a ∧ a ≤ 98) by omega) rfl
theorem tg_443 {M M1 : mm_M} (F : FR (fun a i : Nat => 11 ≤ a ∧ a ≤ 16 ∨ 18 ≤ a ∧ a ≤ 48 ∨ 67 ≤ a ∧ a ≤ 76) M M1) : ∀ a i : Nat, (81 ≤ a ∧ a ≤ 84) → M1.2.1 a i = M.2.1 a i := fun a i z => F_n F (show ¬ (11 ≤ a ∧ a ≤ 16 ∨ 18 ≤ a ∧ a ≤ 48 ∨ 67 ≤ a ∧ a ≤ 76) by omega) rfl
theorem tg_444 {M M1 : mm_M} (F : FR (fun a i : Nat => a = 77 ∧ i = 2 ∨ 94 ≤ a ∧ a ≤ 98) M M1) : ∀ a i : Nat, WC_r a i → M1.2.1 a i = M.2.1 a i := fun a i z => F_n F (show ¬ (a = 77 ∧ i = 2 ∨ 94 ≤ a ∧ a ≤ 98) by omega) rfl
theorem tg_445 {M M1 : mm_M} (F : FR (fun a i : Nat => 11 ≤ a ∧ a ≤ 16 ∨ 18 ≤ a ∧ a ≤ 48 ∨ 67 ≤ a ∧ a ≤ 76) M M1) : ∀ a i : Nat, WC_r a i → M1.2.1 a i = M.2.1 a i := fun a i z => F_n F (show ¬ (11 ≤ a ∧ a ≤ 16 ∨ 18 ≤ a ∧ a ≤ 48 ∨ 67 ≤ a ∧ a ≤ 76) by omega) rfl
theorem tg_446 {M M1 : mm_M} (F : FR (fun a i : Nat => a = 77 ∧ i = 2 ∨ 94 ≤ a ∧ a ≤ 98) M M1) : ∀ a i : Nat, NJ_r a i → M1.2.1 a i = M.2.1 a i := fun a i z => F_n F (show ¬ (a = 77 ∧ i = 2 ∨ 94 ≤ a ∧ a ≤ 98) by omega) rfl
theorem tg_447 {M M1 : mm_M} (F : FR (fun a i : Nat => a = 77 ∧ i = 2 ∨ 94 ≤ a ∧ a ≤ 98) M M1) : ∀ a i : Nat, (a = 100 ∨ a = 77 ∧ i = 28) → M1.2.1 a i = M.2.1 a i := fun a i z => F_n F (show ¬ (a = 77 ∧ i = 2 ∨ 94 ≤ a ∧ a ≤ 98) by omega) rfl
theorem tg_448 {M M1 : mm_M} (F : FR (fun a i : Nat => 11 ≤ a ∧ a ≤ 16 ∨ 18 ≤ a ∧ a ≤ 48 ∨ 67 ≤ a ∧ a ≤ 76) M M1) : ∀ a i : Nat, (a = 100 ∨ a = 77 ∧ i = 28) → M1.2.1 a i = M.2.1 a i := fun a i z => F_n F (show ¬ (11 ≤ a ∧ a ≤ 16 ∨ 18 ≤ a ∧ a ≤ 48 ∨ 67 ≤ a ∧ a ≤ 76) by omega) rfl
theorem tg_449 {M M1 : mm_M} (F : FR (fun a i : Nat => a = 77 ∧ i = 2 ∨ 94 ≤ a ∧ a ≤ 98) M M1) : ∀ a i : Nat, KQ_r a i → M1.2.1 a i = M.2.1 a i := fun a i z => F_n F (show ¬ (a = 77 ∧ i = 2 ∨ 94 ≤ a ∧ a ≤ 98) by omega) rfl
theorem tg_450 {M M1 : mm_M} (F : FR (fun a i : Nat => 11 ≤ a ∧ a ≤ 16 ∨ 18 ≤ a ∧ a ≤ 48 ∨ 67 ≤ a ∧ a ≤ 76) M M1) : ∀ a i : Nat, KQ_r a i → M1.2.1 a i = M.2.1 a i := fun a i z => F_n F (show ¬ (11 ≤ a ∧ a ≤ 16 ∨ 18 ≤ a ∧ a ≤ 48 ∨ 67 ≤ a ∧ a ≤ 76) by omega) rfl
theorem tg_451 {M M1 : mm_M} (F : FR (fun a i : Nat => a = 77 ∧ i = 2 ∨ 94 ≤ a ∧ a ≤ 98) M M1) : ∀ a i : Nat, (a = 1 ∧ i = 1 ∨ a = 2 ∨ a = 78) → M1.2.1 a i = M.2.1 a i := fun a i z => F_n F (show ¬ (a = 77 ∧ i = 2 ∨ 94 ≤ a ∧ a ≤ 98) by omega) rfl
theorem tg_452 {M M1 : mm_M} (F : FR (fun a i : Nat => 11 ≤ a ∧ a ≤ 16 ∨ 18 ≤ a ∧ a ≤ 48 ∨ 67 ≤ a ∧ a ≤ 76) M M1) : ∀ a i : Nat, (a = 1 ∧ i = 1 ∨ a = 2 ∨ a = 78) → M1.2.1 a i = M.2.1 a i := fun a i z => F_n F (show ¬ (11 ≤ a ∧ a ≤ 16 ∨ 18 ≤ a ∧ a ≤ 48 ∨ 67 ≤ a ∧ a ≤ 76) by omega) rfl
theorem tg_453 {M M1 : mm_M} (F : FR (fun a i : Nat => a = 77 ∧ i = 2 ∨ 94 ≤ a ∧ a ≤ 98) M M1) : ∀ a i : Nat, a = 79 → M1.2.1 a i = M.2.1 a i := fun a i z => F_n F (show ¬ (a = 77 ∧ i = 2 ∨ 94 ≤ a ∧ a ≤ 98) by omega) rfl
theorem tg_454 {M M1 : mm_M} (F : FR (fun a i : Nat => 11 ≤ a ∧ a ≤ 16 ∨ 18 ≤ a ∧ a ≤ 48 ∨ 67 ≤ a ∧ a ≤ 76) M M1) : ∀ a i : Nat, a = 79 → M1.2.1 a i = M.2.1 a i := fun a i z => F_n F (show ¬ (11 ≤ a ∧ a ≤ 16 ∨ 18 ≤ a ∧ a ≤ 48 ∨ 67 ≤ a ∧ a ≤ 76) by omega) rfl
theorem tg_455 {M M1 : mm_M} (F : FR (fun a i : Nat => a = 77 ∧ i = 2 ∨ 94 ≤ a ∧ a ≤ 98) M M1) : ∀ a i : Nat, 88 ≤ a ∧ a ≤ 89 → M1.2.1 a i = M.2.1 a i := fun a i z => F_n F (show ¬ (a = 77 ∧ i = 2 ∨ 94 ≤ a ∧ a ≤ 98) by omega) rfl
theorem tg_456 {M M1 : mm_M} (F : FR (fun a i : Nat => 11 ≤ a ∧ a ≤ 16 ∨ 18 ≤ a ∧ a ≤ 48 ∨ 67 ≤ a ∧ a ≤ 76) M M1) : ∀ a i : Nat, 88 ≤ a ∧ a ≤ 89 → M1.2.1 a i = M.2.1 a i := fun a i z => F_n F (show ¬ (11 ≤ a ∧ a ≤ 16 ∨ 18 ≤ a ∧ a ≤ 48 ∨ 67 ≤ a ∧ a ≤ 76) by omega) rfl
theorem tg_457 {M M1 : mm_M} (F : FR (fun a i : Nat => a = 0 ∧ i = 12 ∨ 18 ≤ a ∧ a ≤ 27) M M1) : ∀ a i : Nat, (a = 100 ∨ a = 77 ∧ i = 28) → M1.2.1 a i = M.2.1 a i := fun a i z => F_n F (show ¬ (a = 0 ∧ i = 12 ∨ 18 ≤ a ∧ a ≤ 27) by omega) rfl
theorem tg_458 {M M1 : mm_M} (F : FR (fun a i : Nat => a = 77 ∧ (i = 2 ∨ i = 28) ∨ a = 99 ∨ a = 100) M M1) : ∀ a i : Nat, PI_r a → M1.2.1 a i = M.2.1 a i := fun a i z => F_n F (show ¬ (a = 77 ∧ (i = 2 ∨ i = 28) ∨ a = 99 ∨ a = 100) by omega) rfl
theorem tg_459 {M M1 : mm_M} (F : FR (fun a i : Nat => a = 77 ∧ (i = 2 ∨ i = 28) ∨ a = 99 ∨ a = 100) M M1) : ∀ a i : Nat, (7 ≤ a ∧ a ≤ 9) → M1.2.1 a i = M.2.1 a i := fun a i z => F_n F (show ¬ (a = 77 ∧ (i = 2 ∨ i = 28) ∨ a = 99 ∨ a = 100) by omega) rfl
theorem tg_460 {M M1 : mm_M} (F : FR (fun a i : Nat => a = 77 ∧ (i = 2 ∨ i = 28) ∨ a = 99 ∨ a = 100) M M1) : ∀ a i : Nat, (a = 68 ∨ a = 69 ∨ a = 73 ∨ a = 74) → M1.2.1 a i = M.2.1 a i := fun a i z => F_n F (show ¬ (a = 77 ∧ (i = 2 ∨ i = 28) ∨ a = 99 ∨ a = 100) by omega) rfl
theorem tg_461 {M M1 : mm_M} (F : FR (fun a i : Nat => a = 77 ∧ (i = 2 ∨ i = 28) ∨ a = 99 ∨ a = 100) M M1) : ∀ a i : Nat, (81 ≤ a ∧ a ≤ 84) → M1.2.1 a i = M.2.1 a i := fun a i z => F_n F (show ¬ (a = 77 ∧ (i = 2 ∨ i = 28) ∨ a = 99 ∨ a = 100) by omega) rfl
theorem tg_462 {M M1 : mm_M} (F : FR (fun a i : Nat => a = 0 ∧ i = 12 ∨ 18 ≤ a ∧ a ≤ 27) M M1) : ∀ a i : Nat, (81 ≤ a ∧ a ≤ 84) → M1.2.1 a i = M.2.1 a i := fun a i z => F_n F (show ¬ (a = 0 ∧ i = 12 ∨ 18 ≤ a ∧ a ≤ 27) by omega) rfl
theorem tg_463 {M M1 : mm_M} (F : FR (fun a i : Nat => a = 77 ∧ (i = 2 ∨ i = 28) ∨ a = 99 ∨ a = 100) M M1) : ∀ a i : Nat, WC_r a i → M1.2.1 a i = M.2.1 a i := fun a i z => F_n F (show ¬ (a = 77 ∧ (i = 2 ∨ i = 28) ∨ a = 99 ∨ a = 100) by omega) rfl
theorem tg_464 {M M1 : mm_M} (F : FR (fun a i : Nat => a = 0 ∧ i = 12 ∨ 18 ≤ a ∧ a ≤ 27) M M1) : ∀ a i : Nat, WC_r a i → M1.2.1 a i = M.2.1 a i := fun a i z => F_n F (show ¬ (a = 0 ∧ i = 12 ∨ 18 ≤ a ∧ a ≤ 27) by omega) rfl
theorem tg_465 {M M1 : mm_M} (F : FR (fun a i : Nat => a = 77 ∧ (i = 2 ∨ i = 28) ∨ a = 99 ∨ a = 100) M M1) : ∀ a i : Nat, NJ_r a i → M1.2.1 a i = M.2.1 a i := fun a i z => F_n F (show ¬ (a = 77 ∧ (i = 2 ∨ i = 28) ∨ a = 99 ∨ a = 100) by omega) rfl
theorem tg_466 {M M1 : mm_M} (F : FR (fun a i : Nat => a = 0 ∧ i = 12 ∨ 18 ≤ a ∧ a ≤ 27) M M1) : ∀ a i : Nat, NJ_r a i → M1.2.1 a i = M.2.1 a i := fun a i z => F_n F (show ¬ (a = 0 ∧ i = 12 ∨ 18 ≤ a ∧ a ≤ 27) by omega) rfl
theorem tg_467 {M M1 : mm_M} (F : FR (fun a i : Nat => a = 77 ∧ (i = 2 ∨ i = 28) ∨ a = 99 ∨ a = 100) M M1) : ∀ a i : Nat, KQ_r a i → M1.2.1 a i = M.2.1 a i := fun a i z => F_n F (show ¬ (a = 77 ∧ (i = 2 ∨ i = 28) ∨ a = 99 ∨ a = 100) by omega) rfl
theorem tg_468 {M M1 : mm_M} (F : FR (fun a i : Nat => a = 0 ∧ i = 12 ∨ 18 ≤ a ∧ a ≤ 27) M M1) : ∀ a i : Nat, KQ_r a i → M1.2.1 a i = M.2.1 a i := fun a i z => F_n F (show ¬ (a = 0 ∧ i = 12 ∨ 18 ≤ a ∧ a ≤ 27) by omega) rfl
theorem tg_469 {M M1 : mm_M} (F : FR (fun a i : Nat => a = 77 ∧ (i = 2 ∨ i = 28) ∨ a = 99 ∨ a = 100) M M1) : ∀ a i : Nat, (a = 1 ∧ i = 1 ∨ a = 2 ∨ a = 78) → M1.2.1 a i = M.2.1 a i := fun a i z => F_n F (show ¬ (a = 77 ∧ (i = 2 ∨ i = 28) ∨ a = 99 ∨ a = 100) by omega) rfl
theorem tg_470 {M M1 : mm_M} (F : FR (fun a i : Nat => a = 0 ∧ i = 12 ∨ 18 ≤ a ∧ a ≤ 27) M M1) : ∀ a i : Nat, (a = 1 ∧ i = 1 ∨ a = 2 ∨ a = 78) → M1.2.1 a i = M.2.1 a i := fun a i z => F_n F (show ¬ (a = 0 ∧ i = 12 ∨ 18 ≤ a ∧ a ≤ 27) by omega) rfl
theorem tg_471 {M M1 : mm_M} (F : FR (fun a i : Nat => a = 77 ∧ (i = 2 ∨ i = 28) ∨ a = 99 ∨ a = 100) M M1) : ∀ a i : Nat, a = 79 → M1.2.1 a i = M.2.1 a i := fun a i z => F_n F (show ¬ (a = 77 ∧ (i = 2 ∨ i = 28) ∨ a = 99 ∨ a = 100) by omega) rfl
theorem tg_472 {M M1 : mm_M} (F : FR (fun a i : Nat => a = 0 ∧ i = 12 ∨ 18 ≤ a ∧ a ≤ 27) M M1) : ∀ a i : Nat, a = 79 → M1.2.1 a i = M.2.1 a i := fun a i z => F_n F (show ¬ (a = 0 ∧ i = 12 ∨ 18 ≤ a ∧ a ≤ 27) by omega) rfl
theorem tg_473 {M M1 : mm_M} (F : FR (fun a i : Nat => a = 77 ∧ (i = 2 ∨ i = 28) ∨ a = 99 ∨ a = 100) M M1) : ∀ a i : Nat, 88 ≤ a ∧ a ≤ 89 → M1.2.1 a i = M.2.1 a i := fun a i z => F_n F (show ¬ (a = 77 ∧ (i = 2 ∨ i = 28) ∨ a = 99 ∨ a = 100) by omega) rfl
theorem tg_474 {M M1 : mm_M} (F : FR (fun a i : Nat => a = 0 ∧ i = 12 ∨ 18 ≤ a ∧ a ≤ 27) M M1) : ∀ a i : Nat, 88 ≤ a ∧ a ≤ 89 → M1.2.1 a i = M.2.1 a i := fun a i z => F_n F (show ¬ (a = 0 ∧ i = 12 ∨ 18 ≤ a ∧ a ≤ 27) by omega) rfl
theorem tg_475 {M M1 : mm_M} (F : FR (fun a i : Nat => 6 ≤ a ∧ a ≤ 10) M M1) : ∀ a i : Nat, NJ_r a i → M1.2.1 a i = M.2.1 a i := fun a i z => F_n F (show ¬ (6 ≤ a ∧ a ≤ 10) by omega) rfl
theorem tg_476 {M M1 : mm_M} (F : FR (fun a i : Nat => 6 ≤ a ∧ a ≤ 10) M M1) : ∀ a i : Nat, (81 ≤ a ∧ a ≤ 84) → M1.2.1 a i = M.2.1 a i := fun a i z => F_n F (show ¬ (6 ≤ a ∧ a ≤ 10) by omega) rfl
theorem tg_477 {M M1 : mm_M} (F : FR (fun a i : Nat => 6 ≤ a ∧ a ≤ 10) M M1) : ∀ a i : Nat, (a = 77 ∧ 11 ≤ i ∧ i ≤ 13 ∨ 80 ≤ a ∧ a ≤ 84 ∧ i < 8 ∨ 85 ≤ a ∧ a ≤ 86 ∧ i < 12) → M1.2.1 a i = M.2.1 a i := fun a i z => F_n F (show ¬ (6 ≤ a ∧ a ≤ 10) by omega) rfl
theorem tg_478 {M M1 : mm_M} (F : FR (fun a i : Nat => a = 77 ∧ (i = 2 ∨ i = 29) ∨ 90 ≤ a ∧ a ≤ 93) M M1) : ∀ a i : Nat, PI_r a → M1.2.1 a i = M.2.1 a i := fun a i z => F_n F (show ¬ (a = 77 ∧ (i = 2 ∨ i = 29) ∨ 90 ≤ a ∧ a ≤ 93) by omega) rfl
theorem tg_479 {M M1 : mm_M} (F : FR (fun a i : Nat => a = 77 ∧ (i = 2 ∨ i = 29) ∨ 90 ≤ a ∧ a ≤ 93) M M1) : ∀ a i : Nat, (7 ≤ a ∧ a ≤ 9) → M1.2.1 a i = M.2.1 a i := fun a i z => F_n F (show ¬ (a = 77 ∧ (i = 2 ∨ i = 29) ∨ 90 ≤ a ∧ a ≤ 93) by omega) rfl
theorem tg_480 {M M1 : mm_M} (F : FR (fun a i : Nat => a = 77 ∧ (i = 2 ∨ i = 29) ∨ 90 ≤ a ∧ a ≤ 93) M M1) : ∀ a i : Nat, (a = 68 ∨ a = 69 ∨ a = 73 ∨ a = 74) → M1.2.1 a i = M.2.1 a i := fun a i z => F_n F (show ¬ (a = 77 ∧ (i = 2 ∨ i = 29) ∨ 90 ≤ a ∧ a ≤ 93) by omega) rfl
theorem tg_481 {M M1 : mm_M} (F : FR (fun a i : Nat => a = 77 ∧ (i = 2 ∨ i = 29) ∨ 90 ≤ a ∧ a ≤ 93) M M1) : ∀ a i : Nat, (81 ≤ a ∧ a ≤ 84) → M1.2.1 a i = M.2.1 a i := fun a i z => F_n F (show ¬ (a = 77 ∧ (i = 2 ∨ i = 29) ∨ 90 ≤ a ∧ a ≤ 93) by omega) rfl
theorem tg_482 {M M1 : mm_M} (F : FR (fun a i : Nat => a = 77 ∧ (i = 2 ∨ i = 29) ∨ 90 ≤ a ∧ a ≤ 93) M M1) : ∀ a i : Nat, WC_r a i → M1.2.1 a i = M.2.1 a i := fun a i z => F_n F (show ¬ (a = 77 ∧ (i = 2 ∨ i = 29) ∨ 90 ≤ a ∧ a ≤ 93) by omega) rfl
theorem tg_483 {M M1 : mm_M} (F : FR (fun a i : Nat => 6 ≤ a ∧ a ≤ 10) M M1) : ∀ a i : Nat, WC_r a i → M1.2.1 a i = M.2.1 a i := fun a i z => F_n F (show ¬ (6 ≤ a ∧ a ≤ 10) by omega) rfl
theorem tg_484 {M M1 : mm_M} (F : FR (fun a i : Nat => a = 77 ∧ (i = 2 ∨ i = 29) ∨ 90 ≤ a ∧ a ≤ 93) M M1) : ∀ a i : Nat, (a = 100 ∨ a = 77 ∧ i = 28) → M1.2.1 a i = M.2.1 a i := fun a i z => F_n F (show ¬ (a = 77 ∧ (i = 2 ∨ i = 29) ∨ 90 ≤ a ∧ a ≤ 93) by omega) rfl
theorem tg_485 {M M1 : mm_M} (F : FR (fun a i : Nat => 6 ≤ a ∧ a ≤ 10) M M1) : ∀ a i : Nat, (a = 100 ∨ a = 77 ∧ i = 28) → M1.2.1 a i = M.2.1 a i := fun a i z => F_n F (show ¬ (6 ≤ a ∧ a ≤ 10) by omega) rfl
theorem tg_486 {M M1 : mm_M} (F : FR (fun a i : Nat => a = 77 ∧ (i = 2 ∨ i = 29) ∨ 90 ≤ a ∧ a ≤ 93) M M1) : ∀ a i : Nat, KQ_r a i → M1.2.1 a i = M.2.1 a i := fun a i z => F_n F (show ¬ (a = 77 ∧ (i = 2 ∨ i = 29) ∨ 90 ≤ a ∧ a ≤ 93) by omega) rfl
theorem tg_487 {M M1 : mm_M} (F : FR (fun a i : Nat => 6 ≤ a ∧ a ≤ 10) M M1) : ∀ a i : Nat, KQ_r a i → M1.2.1 a i = M.2.1 a i := fun a i z => F_n F (show ¬ (6 ≤ a ∧ a ≤ 10) by omega) rfl
theorem tg_488 {M M1 : mm_M} (F : FR (fun a i : Nat => a = 77 ∧ (i = 2 ∨ i = 29) ∨ 90 ≤ a ∧ a ≤ 93) M M1) : ∀ a i : Nat, (a = 1 ∧ i = 1 ∨ a = 2 ∨ a = 78) → M1.2.1 a i = M.2.1 a i := fun a i z => F_n F (show ¬ (a = 77 ∧ (i = 2 ∨ i = 29) ∨ 90 ≤ a ∧ a ≤ 93) by omega) rfl
theorem tg_489 {M M1 : mm_M} (F : FR (fun a i : Nat => 6 ≤ a ∧ a ≤ 10) M M1) : ∀ a i : Nat, (a = 1 ∧ i = 1 ∨ a = 2 ∨ a = 78) → M1.2.1 a i = M.2.1 a i := fun a i z => F_n F (show ¬ (6 ≤ a ∧ a ≤ 10) by omega) rfl
theorem tg_490 {M M1 : mm_M} (F : FR (fun a i : Nat => a = 77 ∧ (i = 2 ∨ i = 29) ∨ 90 ≤ a ∧ a ≤ 93) M M1) : ∀ a i : Nat, a = 79 → M1.2.1 a i = M.2.1 a i := fun a i z => F_n F (show ¬ (a = 77 ∧ (i = 2 ∨ i = 29) ∨ 90 ≤ a ∧ a ≤ 93) by omega) rfl
theorem tg_491 {M M1 : mm_M} (F : FR (fun a i : Nat => 6 ≤ a ∧ a ≤ 10) M M1) : ∀ a i : Nat, a = 79 → M1.2.1 a i = M.2.1 a i := fun a i z => F_n F (show ¬ (6 ≤ a ∧ a ≤ 10) by omega) rfl
theorem tg_492 {M M1 : mm_M} (F : FR (fun a i : Nat => a = 77 ∧ (i = 2 ∨ i = 29) ∨ 90 ≤ a ∧ a ≤ 93) M M1) : ∀ a i : Nat, 88 ≤ a ∧ a ≤ 89 → M1.2.1 a i = M.2.1 a i := fun a i z => F_n F (show ¬ (a = 77 ∧ (i = 2 ∨ i = 29) ∨ 90 ≤ a ∧ a ≤ 93) by omega) rfl
theorem tg_493 {M M1 : mm_M} (F : FR (fun a i : Nat => 6 ≤ a ∧ a ≤ 10) M M1) : ∀ a i : Nat, 88 ≤ a ∧ a ≤ 89 → M1.2.1 a i = M.2.1 a i := fun a i z => F_n F (show ¬ (6 ≤ a ∧ a ≤ 10) by omega) rfl
theorem tg_494 : ∀ a i : Nat, (49 ≤ a ∧ a ≤ 66 ∨ a = 77 ∧ 11 ≤ i ∧ i ≤ 13 ∨ 80 ≤ a ∧ a ≤ 87 ∨ 6 ≤ a ∧ a ≤ 10 ∨ 90 ≤ a ∧ a ≤ 93 ∨ a = 0 ∧ i = 12) → ¬ (a = 77 ∧ (i = 1 ∨ i = 2) ∨ a = 78) := fun a i z => by omega
theorem tg_495 : ∀ a i : Nat, (49 ≤ a ∧ a ≤ 66 ∨ a = 77 ∧ 11 ≤ i ∧ i ≤ 13 ∨ 80 ≤ a ∧ a ≤ 87 ∨ 6 ≤ a ∧ a ≤ 10 ∨ 90 ≤ a ∧ a ≤ 93 ∨ a = 0 ∧ i = 12) → ¬ (a = 1 ∧ i = 1 ∨ a = 2) := fun a i z => by omega
theorem tg_496 : ∀ a i : Nat, (49 ≤ a ∧ a ≤ 66 ∨ a = 77 ∧ 11 ≤ i ∧ i ≤ 13 ∨ 80 ≤ a ∧ a ≤ 87 ∨ 6 ≤ a ∧ a ≤ 10 ∨ 90 ≤ a ∧ a ≤ 93 ∨ a = 0 ∧ i = 12) → ¬ (a = 77 ∧ (1 ≤ i ∧ i ≤ 2 ∨ 4 ≤ i ∧ i ≤ 10 ∨ 42 ≤ i ∧ i ≤ 44 ∨ i = 52) ∨ 94 ≤ a ∧ a ≤ 111) := fun a i z => by omega
theorem tg_497 : ∀ a i : Nat, (49 ≤ a ∧ a ≤ 66 ∨ a = 77 ∧ 11 ≤ i ∧ i ≤ 13 ∨ 80 ≤ a ∧ a ≤ 87 ∨ 6 ≤ a ∧ a ≤ 10 ∨ 90 ≤ a ∧ a ≤ 93 ∨ a = 0 ∧ i = 12) → ¬ (a = 1 ∨ 3 ≤ a ∧ a ≤ 5 ∨ 11 ≤ a ∧ a ≤ 16 ∨ 18 ≤ a ∧ a ≤ 48) := fun a i z => by omega
theorem tg_498 : ∀ a i : Nat, (49 ≤ a ∧ a ≤ 66 ∨ a = 77 ∧ 11 ≤ i ∧ i ≤ 13 ∨ 80 ≤ a ∧ a ≤ 87 ∨ 6 ≤ a ∧ a ≤ 10 ∨ 90 ≤ a ∧ a ≤ 93 ∨ a = 0 ∧ i = 12) → ¬ (a = 77 ∧ (1 ≤ i ∧ i ≤ 2 ∨ 4 ≤ i ∧ i ≤ 10 ∨ 57 ≤ i ∧ i ≤ 59 ∨ 65 ≤ i ∧ i ≤ 69) ∨ 112 ≤ a ∧ a ≤ 116) := fun a i z => by omega
theorem tg_499 : ∀ a i : Nat, (49 ≤ a ∧ a ≤ 66 ∨ a = 77 ∧ 11 ≤ i ∧ i ≤ 13 ∨ 80 ≤ a ∧ a ≤ 87 ∨ 6 ≤ a ∧ a ≤ 10 ∨ 90 ≤ a ∧ a ≤ 93 ∨ a = 0 ∧ i = 12) → ¬ (a = 77 ∧ i = 2) := fun a i z => by omega
theorem tg_500 : ∀ a i : Nat, (49 ≤ a ∧ a ≤ 66 ∨ a = 77 ∧ 11 ≤ i ∧ i ≤ 13 ∨ 80 ≤ a ∧ a ≤ 87 ∨ 6 ≤ a ∧ a ≤ 10 ∨ 90 ≤ a ∧ a ≤ 93 ∨ a = 0 ∧ i = 12) → ¬ (a < 0) := fun a i z => by omega
theorem tg_501 : ∀ a i : Nat, (49 ≤ a ∧ a ≤ 66 ∨ a = 77 ∧ 11 ≤ i ∧ i ≤ 13 ∨ 80 ≤ a ∧ a ≤ 87 ∨ 6 ≤ a ∧ a ≤ 10 ∨ 90 ≤ a ∧ a ≤ 93 ∨ a = 0 ∧ i = 12) → ¬ (a = 77 ∧ i = 2 ∨ 94 ≤ a ∧ a ≤ 98) := fun a i z => by omega
theorem tg_502 : ∀ a i : Nat, (49 ≤ a ∧ a ≤ 66 ∨ a = 77 ∧ 11 ≤ i ∧ i ≤ 13 ∨ 80 ≤ a ∧ a ≤ 87 ∨ 6 ≤ a ∧ a ≤ 10 ∨ 90 ≤ a ∧ a ≤ 93 ∨ a = 0 ∧ i = 12) → ¬ (11 ≤ a ∧ a ≤ 16 ∨ 18 ≤ a ∧ a ≤ 48 ∨ 67 ≤ a ∧ a ≤ 76) := fun a i z => by omega
theorem tg_503 : ∀ a i : Nat, (49 ≤ a ∧ a ≤ 66 ∨ a = 77 ∧ 11 ≤ i ∧ i ≤ 13 ∨ 80 ≤ a ∧ a ≤ 87 ∨ 6 ≤ a ∧ a ≤ 10 ∨ 90 ≤ a ∧ a ≤ 93 ∨ a = 0 ∧ i = 12) → ¬ (a = 77 ∧ (i = 2 ∨ i = 28) ∨ a = 99 ∨ a = 100) := fun a i z => by omega
set_option maxRecDepth 4000 in
set_option maxHeartbeats 0 in
theorem LW_0 {X : mm_X} {d L : Nat} {M : mm_M} {Q : Option Value → mm_M → Prop} {i : Int32} {u5 u6 : Value} (hX : g_X X) (hW : g_W X) (hW2 : g_W2 X) (hL : (X 0).1 = L) (h3 : L ≤ 3072) (hd : 40 ≤ d) (hi : 0 ≤ i.toInt) (hi2 : i.toInt + 6 ≤ (L : Int)) (H : LI9 M) (h : ∀ (M1 : mm_M) (v5 v6 : Value), LI9 M1 → M1.1.2.1 ≤ M.1.2.1 + 1 → M1.1.2.2.1 ≤ M.1.2.2.1 + 6 → mm_T X d 0 1313 [.ref mm_ext, .ref 0, .ref 77, .ref 125, .int i, v5, v6] [] M1 Q) : mm_T X d 0 176 [.ref mm_ext, .ref 0, .ref 77, .ref 125, .int i, u5, u6] [] M Q := by
  obtain ⟨⟨⟨⟨⟨⟨⟨⟨hG, ⟨jPI, jNI, jQI, jPQE⟩, ⟨jFA, jWC, jNJ, jPS, jKQ⟩, jJ, jE⟩, jTP, jW9⟩, jNE, jCC⟩, -⟩, jOV⟩, jW8⟩, jNN⟩, jAN⟩ := H
  have b_1 := g_b hG (a := 77) (i := 7) (lo := 0) (hi := 500) rfl rfl
  have b_2 := g_b hG (a := 77) (i := 6) (lo := 0) (hi := 500) rfl rfl
  have b_3 := g_b hG (a := 1) (i := 1) (lo := 0) (hi := 500) rfl rfl
  have b_4 := g_b hG (a := 77) (i := 1) (lo := 0) (hi := 500) rfl rfl
  have b_5 := g_b hG (a := 0) (i := 12) (lo := 0) (hi := 30) rfl rfl
  have b_6 := g_b hG (a := 77) (i := 28) (lo := 0) (hi := 30) rfl rfl
  have b_7 := g_b hG (a := 6) (i := 0) (lo := 0) (hi := 150) rfl rfl
  have b_8 := g_b hG (a := 77) (i := 29) (lo := 0) (hi := 150) rfl rfl
  refine to_an (pc := 176) rw_0_176 rfl (to_an (pc := 177) rw_0_177 rfl (to_i (pc := 178) rw_0_178 rfl (to_c (pc := 180) rw_0_180 (x := (1 : Int32)) rfl rfl (s_add (pc := 181) rw_0_181 (A := i.toInt) (B := 1) rfl rfl (by omega) (fun v9 e10 => s_x0 (pc := 182) rw_0_182 hL (A := v9.toInt) rfl (by omega) (by omega) (fun v11 e12 => to_an (pc := 183) rw_0_183 rfl (to_i (pc := 184) rw_0_184 rfl (to_c (pc := 186) rw_0_186 (x := (2 : Int32)) rfl rfl (s_add (pc := 187) rw_0_187 (A := i.toInt) (B := 2) rfl rfl (by omega) (fun v13 e14 => s_x0 (pc := 188) rw_0_188 hL (A := v13.toInt) rfl (by omega) (by omega) (fun v15 e16 => to_an (pc := 189) rw_0_189 rfl ?_)))))))))))
  refine to_i (pc := 190) rw_0_190 rfl (to_c (pc := 192) rw_0_192 (x := (3 : Int32)) rfl rfl (s_add (pc := 193) rw_0_193 (A := i.toInt) (B := 3) rfl rfl (by omega) (fun v17 e18 => s_x0 (pc := 194) rw_0_194 hL (A := v17.toInt) rfl (by omega) (by omega) (fun v19 e20 => to_an (pc := 195) rw_0_195 rfl (to_i (pc := 196) rw_0_196 rfl (to_c (pc := 198) rw_0_198 (x := (4 : Int32)) rfl rfl (s_add (pc := 199) rw_0_199 (A := i.toInt) (B := 4) rfl rfl (by omega) (fun v21 e22 => s_x0 (pc := 200) rw_0_200 hL (A := v21.toInt) rfl (by omega) (by omega) (fun v23 e24 => to_an (pc := 201) rw_0_201 rfl (to_i (pc := 202) rw_0_202 rfl (to_c (pc := 204) rw_0_204 (x := (5 : Int32)) rfl rfl ?_)))))))))))
  refine s_add (pc := 205) rw_0_205 (A := i.toInt) (B := 5) rfl rfl (by omega) (fun v25 e26 => s_x0 (pc := 206) rw_0_206 hL (A := v25.toInt) rfl (by omega) (by omega) (fun v27 e28 => s_v (pc := 207) rw_0_207 (dp0 hd (by decide)) (ls0 := [.ref 0, .int v11, .int v15, .int v19, .int v23, .int v27]) rfl (Nat.le_of_ble_eq_true rfl) (Nat.le_of_ble_eq_true rfl) rfl (to_rc rfl rfl rfl (g_o hG rfl)) rfl (E_110 hX (dp1 hd (by decide)) hG (a := v11) (b := v15) (c := v19) (x := v23) (e := v27) (fun r29 M35 hG31 F30 p_32 p_33 p_34 => ?_))))
  have n_36 : M35.1.2.1 = M.1.2.1 ∧ M35.1.2.2.1 = M.1.2.2.1 := by rw [F30.1]; exact ⟨rfl, rfl⟩
  have b_38 := g_b hG31 (a := 1) (i := 1) (lo := 0) (hi := 500) rfl rfl
  refine to_popi (pc := 210) rw_0_210 (to_an (pc := 211) rw_0_211 rfl (to_an (pc := 212) rw_0_212 rfl (to_i (pc := 213) rw_0_213 rfl (to_c (pc := 215) rw_0_215 (x := (1 : Int32)) rfl rfl (s_addk (pc := 216) rw_0_216 (A := i.toInt) (B := 1) rfl rfl (by omega) (v := v9) e10 (s_x0k (pc := 217) rw_0_217 hL (A := v9.toInt) rfl (by omega) (by omega) (v := v11) e12 (to_an (pc := 218) rw_0_218 rfl (to_i (pc := 219) rw_0_219 rfl (to_c (pc := 221) rw_0_221 (x := (2 : Int32)) rfl rfl (s_addk (pc := 222) rw_0_222 (A := i.toInt) (B := 2) rfl rfl (by omega) (v := v13) e14 (s_x0k (pc := 223) rw_0_223 hL (A := v13.toInt) rfl (by omega) (by omega) (v := v15) e16 ?_)))))))))))
  refine to_an (pc := 224) rw_0_224 rfl (to_i (pc := 225) rw_0_225 rfl (to_c (pc := 227) rw_0_227 (x := (3 : Int32)) rfl rfl (s_addk (pc := 228) rw_0_228 (A := i.toInt) (B := 3) rfl rfl (by omega) (v := v17) e18 (s_x0k (pc := 229) rw_0_229 hL (A := v17.toInt) rfl (by omega) (by omega) (v := v19) e20 (to_an (pc := 230) rw_0_230 rfl (to_i (pc := 231) rw_0_231 rfl (to_c (pc := 233) rw_0_233 (x := (4 : Int32)) rfl rfl (s_addk (pc := 234) rw_0_234 (A := i.toInt) (B := 4) rfl rfl (by omega) (v := v21) e22 (s_x0k (pc := 235) rw_0_235 hL (A := v21.toInt) rfl (by omega) (by omega) (v := v23) e24 (to_an (pc := 236) rw_0_236 rfl (to_i (pc := 237) rw_0_237 rfl ?_)))))))))))
  refine to_c (pc := 239) rw_0_239 (x := (5 : Int32)) rfl rfl (s_addk (pc := 240) rw_0_240 (A := i.toInt) (B := 5) rfl rfl (by omega) (v := v25) e26 (s_x0k (pc := 241) rw_0_241 hL (A := v25.toInt) rfl (by omega) (by omega) (v := v27) e28 (s_v (pc := 242) rw_0_242 (dp0 hd (by decide)) (ls0 := [.ref 77, .int v11, .int v15, .int v19, .int v23, .int v27, .null, .null]) rfl (Nat.le_of_ble_eq_true rfl) (Nat.le_of_ble_eq_true rfl) rfl (to_rc rfl rfl rfl (g_o hG31 rfl)) rfl ?_)))
  have c_49 : M35.2.1 77 1 = (M.2.1 77 1) := (F_n F30 (show ¬ (77 = 1 ∧ 1 = 1 ∨ 77 = 2) by decide) rfl)
  have t_50 : (M35.2.1 77 1).toInt = (M.2.1 77 1).toInt := congrArg Int32.toInt c_49
  refine E_148 hX (dp1 hd (by decide)) hG31 (a := v11) (b := v15) (c := v19) (x := v23) (e := v27) (fun r51 M57 hG53 F52 p_54 p_55 p_56 => ?_)
  have n_58 : M57.1.2.1 = M35.1.2.1 ∧ M57.1.2.2.1 = M35.1.2.2.1 := by rw [F52.1]; exact ⟨rfl, rfl⟩
  have b_60 := g_b hG53 (a := 77) (i := 1) (lo := 0) (hi := 500) rfl rfl
  have c_61 : M57.2.1 1 1 = (M35.2.1 1 1) := (F_n F52 (show ¬ (1 = 77 ∧ (1 = 1 ∨ 1 = 2) ∨ 1 = 78) by decide) rfl)
  have t_62 : (M57.2.1 1 1).toInt = (M35.2.1 1 1).toInt := congrArg Int32.toInt c_61
  have z_63 := TP_d jTP (by omega) (by omega) p_34 (by omega) (fun k => (F_n F30 (show ¬ (78 = 1 ∧ k = 1 ∨ 78 = 2) by omega) rfl)) (F_n F30 (show ¬ (77 = 1 ∧ 1 = 1 ∨ 77 = 2) by decide) rfl) p_56 (fun k => (F_n F52 (show ¬ (2 = 77 ∧ (k = 1 ∨ k = 2) ∨ 2 = 78) by omega) rfl))
  refine to_popi (pc := 245) rw_0_245 (to_go (pc := 246) rw_0_246 ?_)
  have c_64 : M57.2.1 77 7 = (M.2.1 77 7) := (F_n F52 (show ¬ (77 = 77 ∧ (7 = 1 ∨ 7 = 2) ∨ 77 = 78) by decide) (F_n F30 (show ¬ (77 = 1 ∧ 7 = 1 ∨ 77 = 2) by decide) rfl))
  have t_65 : (M57.2.1 77 7).toInt = (M.2.1 77 7).toInt := congrArg Int32.toInt c_64
  have c_66 : M57.2.1 77 6 = (M.2.1 77 6) := (F_n F52 (show ¬ (77 = 77 ∧ (6 = 1 ∨ 6 = 2) ∨ 77 = 78) by decide) (F_n F30 (show ¬ (77 = 1 ∧ 6 = 1 ∨ 77 = 2) by decide) rfl))
  have t_67 : (M57.2.1 77 6).toInt = (M.2.1 77 6).toInt := congrArg Int32.toInt c_66
  have c_68 : M57.2.1 0 12 = (M.2.1 0 12) := (F_n F52 (show ¬ (0 = 77 ∧ (12 = 1 ∨ 12 = 2) ∨ 0 = 78) by decide) (F_n F30 (show ¬ (0 = 1 ∧ 12 = 1 ∨ 0 = 2) by decide) rfl))
  have t_69 : (M57.2.1 0 12).toInt = (M.2.1 0 12).toInt := congrArg Int32.toInt c_68
  have c_70 : M57.2.1 77 28 = (M.2.1 77 28) := (F_n F52 (show ¬ (77 = 77 ∧ (28 = 1 ∨ 28 = 2) ∨ 77 = 78) by decide) (F_n F30 (show ¬ (77 = 1 ∧ 28 = 1 ∨ 77 = 2) by decide) rfl))
  have t_71 : (M57.2.1 77 28).toInt = (M.2.1 77 28).toInt := congrArg Int32.toInt c_70
  have c_72 : M57.2.1 17 4 = (M.2.1 17 4) := (F_n F52 (show ¬ (17 = 77 ∧ (4 = 1 ∨ 4 = 2) ∨ 17 = 78) by decide) (F_n F30 (show ¬ (17 = 1 ∧ 4 = 1 ∨ 17 = 2) by decide) rfl))
  have t_73 : (M57.2.1 17 4).toInt = (M.2.1 17 4).toInt := congrArg Int32.toInt c_72
  have c_74 : M57.2.1 77 41 = (M.2.1 77 41) := (F_n F52 (show ¬ (77 = 77 ∧ (41 = 1 ∨ 41 = 2) ∨ 77 = 78) by decide) (F_n F30 (show ¬ (77 = 1 ∧ 41 = 1 ∨ 77 = 2) by decide) rfl))
  have t_75 : (M57.2.1 77 41).toInt = (M.2.1 77 41).toInt := congrArg Int32.toInt c_74
  have c_76 : M57.2.1 6 0 = (M.2.1 6 0) := (F_n F52 (show ¬ (6 = 77 ∧ (0 = 1 ∨ 0 = 2) ∨ 6 = 78) by decide) (F_n F30 (show ¬ (6 = 1 ∧ 0 = 1 ∨ 6 = 2) by decide) rfl))
  have t_77 : (M57.2.1 6 0).toInt = (M.2.1 6 0).toInt := congrArg Int32.toInt c_76
  have c_78 : M57.2.1 77 29 = (M.2.1 77 29) := (F_n F52 (show ¬ (77 = 77 ∧ (29 = 1 ∨ 29 = 2) ∨ 77 = 78) by decide) (F_n F30 (show ¬ (77 = 1 ∧ 29 = 1 ∨ 77 = 2) by decide) rfl))
  have t_79 : (M57.2.1 77 29).toInt = (M.2.1 77 29).toInt := congrArg Int32.toInt c_78
  have j_80 := (PI_f (tg_363 F52) (PI_f (tg_364 F30) jPI))
  have j_81 := (NI_f (tg_365 F52) (NI_f (tg_366 F30) jNI))
  have j_82 := (QI_f (tg_367 F52) (QI_f (tg_368 F30) jQI))
  have j_83 := (PQE_r F52.2.1 (PQE_r F30.2.1 jPQE))
  have j_84 := (FA_f (tg_369 F52) (FA_f (tg_370 F30) jFA))
  have j_85 := (WC_f (tg_371 F52) (WC_f (tg_372 F30) jWC))
  have j_86 := (NJ_f (tg_373 F52) (NJ_f (tg_374 F30) jNJ))
  have j_87 := (PS_f (tg_375 F52) (PS_f (tg_376 F30) jPS))
  have j_88 := (KQ_f (tg_377 F52) (KQ_f (tg_378 F30) jKQ))
  have j_89 := (W9_f (tg_379 F52) (W9_f (tg_380 F30) jW9))
  have j_90 := (AN_F F52 tg_494 (AN_F F30 tg_495 jAN))
  have j_91 := (NE_r F52.2.1 (NE_r F30.2.1 jNE))
  have j_92 := (W8_f (tg_381 F52) (W8_f (tg_382 F30) jW8))
  exact h M57 (u5) (u6) ⟨⟨⟨⟨⟨⟨⟨⟨hG53, ⟨j_80, j_81, j_82, j_83⟩, ⟨j_84, j_85, j_86, j_87, j_88⟩, by omega, by omega⟩, z_63, j_89⟩, j_91, by omega⟩, AN_a j_90⟩, by omega⟩, j_92⟩, by omega⟩, j_90⟩ (by omega) (by omega)
set_option maxRecDepth 4000 in
set_option maxHeartbeats 0 in
theorem LW_1 {X : mm_X} {d L : Nat} {M : mm_M} {Q : Option Value → mm_M → Prop} {i : Int32} {u5 u6 : Value} (hX : g_X X) (hW : g_W X) (hW2 : g_W2 X) (hL : (X 0).1 = L) (h3 : L ≤ 3072) (hd : 40 ≤ d) (hi : 0 ≤ i.toInt) (hi2 : i.toInt + 6 ≤ (L : Int)) (H : LI9 M) (h : ∀ (M1 : mm_M) (v5 v6 : Value), LI9 M1 → M1.1.2.1 ≤ M.1.2.1 + 1 → M1.1.2.2.1 ≤ M.1.2.2.1 + 6 → mm_T X d 0 1313 [.ref mm_ext, .ref 0, .ref 77, .ref 125, .int i, v5, v6] [] M1 Q) : mm_T X d 0 249 [.ref mm_ext, .ref 0, .ref 77, .ref 125, .int i, u5, u6] [] M Q := by
  obtain ⟨⟨⟨⟨⟨⟨⟨⟨hG, ⟨jPI, jNI, jQI, jPQE⟩, ⟨jFA, jWC, jNJ, jPS, jKQ⟩, jJ, jE⟩, jTP, jW9⟩, jNE, jCC⟩, -⟩, jOV⟩, jW8⟩, jNN⟩, jAN⟩ := H
  have b_1 := g_b hG (a := 77) (i := 7) (lo := 0) (hi := 500) rfl rfl
  have b_2 := g_b hG (a := 77) (i := 6) (lo := 0) (hi := 500) rfl rfl
  have b_3 := g_b hG (a := 1) (i := 1) (lo := 0) (hi := 500) rfl rfl
  have b_4 := g_b hG (a := 77) (i := 1) (lo := 0) (hi := 500) rfl rfl
  have b_5 := g_b hG (a := 0) (i := 12) (lo := 0) (hi := 30) rfl rfl
  have b_6 := g_b hG (a := 77) (i := 28) (lo := 0) (hi := 30) rfl rfl
  have b_7 := g_b hG (a := 6) (i := 0) (lo := 0) (hi := 150) rfl rfl
  have b_8 := g_b hG (a := 77) (i := 29) (lo := 0) (hi := 150) rfl rfl
  refine to_an (pc := 249) rw_0_249 rfl (to_an (pc := 250) rw_0_250 rfl (to_i (pc := 251) rw_0_251 rfl (to_c (pc := 253) rw_0_253 (x := (1 : Int32)) rfl rfl (s_add (pc := 254) rw_0_254 (A := i.toInt) (B := 1) rfl rfl (by omega) (fun v9 e10 => s_x0 (pc := 255) rw_0_255 hL (A := v9.toInt) rfl (by omega) (by omega) (fun v11 e12 => s_v (pc := 256) rw_0_256 (dp0 hd (by decide)) (ls0 := [.ref 0, .int v11, .null]) rfl (Nat.le_of_ble_eq_true rfl) (Nat.le_of_ble_eq_true rfl) rfl (to_rc rfl rfl rfl (g_o hG rfl)) rfl ?_))))))
  obtain ⟨pz13, pzz13, qz13, qzz13, hpz13, hpzz13, hqz13, hqzz13, hpqz13⟩ := id jPQE
  obtain ⟨t, nn, hn1, hT1, hR1⟩ := TP_X (n := v11.toInt) jTP
  refine D_111 hX (dp1 hd (by decide)) hG hpz13 hpzz13 hqz13 hqzz13 hpqz13 jPI jNI jQI (by omega) hT1 hW (NE_p hpqz13 jNE) (n := v11) (t := t) (nn := nn) (p := pz13) (pz := pzz13) (q := qz13) (qz := qzz13) (fun r14 M32 hG16 F15 p_17 p_18 p_19 p_20 p_21 p_22 p_23 p_24 p_25 p_26 p_27 p_28 p_29 p_30 p_31 => ?_)
  have n_33 : M32.1.2.1 = M.1.2.1 ∧ M32.1.2.2.1 = M.1.2.2.1 := by rw [F15.1]; exact ⟨rfl, rfl⟩
  have b_35 := g_b hG16 (a := 1) (i := 1) (lo := 0) (hi := 500) rfl rfl
  have b_36 := g_b hG16 (a := 0) (i := 12) (lo := 0) (hi := 30) rfl rfl
  have b_37 := g_b hG16 (a := 6) (i := 0) (lo := 0) (hi := 150) rfl rfl
  have z_38 := TP_s jTP (by omega) (fun a i z => (Fx_n F15 (show ¬ (a ≤ 76 ∧ ¬ a = 2) by omega) rfl))
  refine to_popi (pc := 259) rw_0_259 (to_an (pc := 260) rw_0_260 rfl (to_an (pc := 261) rw_0_261 rfl (to_i (pc := 262) rw_0_262 rfl (to_c (pc := 264) rw_0_264 (x := (1 : Int32)) rfl rfl (s_addk (pc := 265) rw_0_265 (A := i.toInt) (B := 1) rfl rfl (by omega) (v := v9) e10 (s_x0k (pc := 266) rw_0_266 hL (A := v9.toInt) rfl (by omega) (by omega) (v := v11) e12 (s_v (pc := 267) rw_0_267 (dp0 hd (by decide)) (ls0 := [.ref 77, .int v11, .null]) rfl (Nat.le_of_ble_eq_true rfl) (Nat.le_of_ble_eq_true rfl) rfl (to_rc rfl rfl rfl (g_o hG16 rfl)) rfl ?_)))))))
  have c_41 : M32.2.1 77 1 = (M.2.1 77 1) := (Fx_n F15 (show ¬ (77 ≤ 76 ∧ ¬ 77 = 2) by decide) rfl)
  have t_42 : (M32.2.1 77 1).toInt = (M.2.1 77 1).toInt := congrArg Int32.toInt c_41
  have c_43 : M32.2.1 77 28 = (M.2.1 77 28) := (Fx_n F15 (show ¬ (77 ≤ 76 ∧ ¬ 77 = 2) by decide) rfl)
  have t_44 : (M32.2.1 77 28).toInt = (M.2.1 77 28).toInt := congrArg Int32.toInt c_43
  have c_45 : M32.2.1 77 29 = (M.2.1 77 29) := (Fx_n F15 (show ¬ (77 ≤ 76 ∧ ¬ 77 = 2) by decide) rfl)
  have t_46 : (M32.2.1 77 29).toInt = (M.2.1 77 29).toInt := congrArg Int32.toInt c_45
  have c_47 : M32.2.1 77 41 = (M.2.1 77 41) := (Fx_n F15 (show ¬ (77 ≤ 76 ∧ ¬ 77 = 2) by decide) rfl)
  have t_48 : (M32.2.1 77 41).toInt = (M.2.1 77 41).toInt := congrArg Int32.toInt c_47
  have c_49 : M32.2.1 77 7 = (M.2.1 77 7) := (Fx_n F15 (show ¬ (77 ≤ 76 ∧ ¬ 77 = 2) by decide) rfl)
  have t_50 : (M32.2.1 77 7).toInt = (M.2.1 77 7).toInt := congrArg Int32.toInt c_49
  have c_51 : M32.2.1 77 6 = (M.2.1 77 6) := (Fx_n F15 (show ¬ (77 ≤ 76 ∧ ¬ 77 = 2) by decide) rfl)
  have t_52 : (M32.2.1 77 6).toInt = (M.2.1 77 6).toInt := congrArg Int32.toInt c_51
  have j_53 := (FA_f (tg_383 F15) jFA)
  have j_54 := (WC_f (tg_384 F15) jWC)
  have j_55 := (NJ_f (tg_385 F15) jNJ)
  have j_56 := (PS_f (tg_386 F15) jPS)
  have j_57 := (KQ_f (tg_387 F15) jKQ)
  have j_58 := (TR_f (tg_388 F15) hR1)
  have j_59 := (W9_f (tg_389 F15) jW9)
  refine D_173 hX (dp1 hd (by decide)) hG16 (by omega) j_53 j_54 j_55 j_56 j_57 (by omega) j_58 j_59 (n := v11) (t := t) (nn := nn) (fun r60 M78 hG62 F61 p_63 p_64 p_65 p_66 p_67 p_68 p_69 p_70 p_71 p_72 p_73 p_74 p_75 p_76 p_77 => ?_)
  have n_79 : M78.1.2.1 = M32.1.2.1 ∧ M78.1.2.2.1 = M32.1.2.2.1 := by rw [F61.1]; exact ⟨rfl, rfl⟩
  have b_81 := g_b hG62 (a := 77) (i := 7) (lo := 0) (hi := 500) rfl rfl
  have b_82 := g_b hG62 (a := 77) (i := 6) (lo := 0) (hi := 500) rfl rfl
  have b_83 := g_b hG62 (a := 77) (i := 1) (lo := 0) (hi := 500) rfl rfl
  have b_84 := g_b hG62 (a := 77) (i := 28) (lo := 0) (hi := 30) rfl rfl
  have b_85 := g_b hG62 (a := 77) (i := 29) (lo := 0) (hi := 150) rfl rfl
  have z_86 := PAN_q (h1 := (M.2.1 1 1).toInt) (h2 := (M32.2.1 77 1).toInt) (by omega) p_23 p_71 p_24 p_72
  have z_87 := AN_p jAN hpqz13 z_86 p_28 p_29 F15 (fun a i z => show ¬ (a ≤ 76 ∧ ¬ a = 2) by omega) F61 (fun a i z => show ¬ (a = 77 ∨ 79 < a ∧ a ≤ 87 ∨ a = 100) by omega) p_76 p_77 p_31 (fun z => by omega)
  refine to_popi (pc := 270) rw_0_270 (to_go (pc := 271) rw_0_271 ?_)
  have c_88 : M78.2.1 1 1 = (M32.2.1 1 1) := (F_n F61 (show ¬ (1 = 77 ∨ 79 < 1 ∧ 1 ≤ 87 ∨ 1 = 100) by decide) rfl)
  have t_89 : (M78.2.1 1 1).toInt = (M32.2.1 1 1).toInt := congrArg Int32.toInt c_88
  have c_90 : M78.2.1 0 12 = (M32.2.1 0 12) := (F_n F61 (show ¬ (0 = 77 ∨ 79 < 0 ∧ 0 ≤ 87 ∨ 0 = 100) by decide) rfl)
  have t_91 : (M78.2.1 0 12).toInt = (M32.2.1 0 12).toInt := congrArg Int32.toInt c_90
  have c_92 : M78.2.1 17 4 = (M32.2.1 17 4) := (F_n F61 (show ¬ (17 = 77 ∨ 79 < 17 ∧ 17 ≤ 87 ∨ 17 = 100) by decide) rfl)
  have t_93 : (M78.2.1 17 4).toInt = (M32.2.1 17 4).toInt := congrArg Int32.toInt c_92
  have c_94 : M78.2.1 6 0 = (M32.2.1 6 0) := (F_n F61 (show ¬ (6 = 77 ∨ 79 < 6 ∧ 6 ≤ 87 ∨ 6 = 100) by decide) rfl)
  have t_95 : (M78.2.1 6 0).toInt = (M32.2.1 6 0).toInt := congrArg Int32.toInt c_94
  have j_96 := (PI_f (tg_390 F61) p_19)
  have j_97 := (NI_f (tg_391 F61) p_21)
  have j_98 := (QI_f (tg_392 F61) p_22)
  have j_99 := (PQE_r F61.2.1 (PQE_pp hpz13 hpzz13 hqz13 hqzz13 p_20))
  have j_100 := (TP_f (tg_393 F61) z_38)
  have j_101 := (W9_f (tg_394 F61) j_59)
  have j_102 := (NE_r F61.2.1 p_30)
  have j_103 := (W8_f (tg_395 F61) (W8_f (tg_396 F15) jW8))
  exact h M78 (u5) (u6) ⟨⟨⟨⟨⟨⟨⟨⟨hG62, ⟨j_96, j_97, j_98, j_99⟩, ⟨p_64, p_65, p_66, p_67, p_68⟩, by omega, by omega⟩, j_100, j_101⟩, j_102, by omega⟩, AN_a z_87⟩, by omega⟩, j_103⟩, by omega⟩, z_87⟩ (by omega) (by omega)
set_option maxRecDepth 4000 in
set_option maxHeartbeats 0 in
theorem LW_2 {X : mm_X} {d L : Nat} {M : mm_M} {Q : Option Value → mm_M → Prop} {i : Int32} {u5 u6 : Value} (hX : g_X X) (hW : g_W X) (hW2 : g_W2 X) (hL : (X 0).1 = L) (h3 : L ≤ 3072) (hd : 40 ≤ d) (hi : 0 ≤ i.toInt) (hi2 : i.toInt + 6 ≤ (L : Int)) (H : LI9 M) (h : ∀ (M1 : mm_M) (v5 v6 : Value), LI9 M1 → M1.1.2.1 ≤ M.1.2.1 + 1 → M1.1.2.2.1 ≤ M.1.2.2.1 + 6 → mm_T X d 0 1313 [.ref mm_ext, .ref 0, .ref 77, .ref 125, .int i, v5, v6] [] M1 Q) : mm_T X d 0 274 [.ref mm_ext, .ref 0, .ref 77, .ref 125, .int i, u5, u6] [] M Q := by
  obtain ⟨⟨⟨⟨⟨⟨⟨⟨hG, ⟨jPI, jNI, jQI, jPQE⟩, ⟨jFA, jWC, jNJ, jPS, jKQ⟩, jJ, jE⟩, jTP, jW9⟩, jNE, jCC⟩, -⟩, jOV⟩, jW8⟩, jNN⟩, jAN⟩ := H
  have b_1 := g_b hG (a := 77) (i := 7) (lo := 0) (hi := 500) rfl rfl
  have b_2 := g_b hG (a := 77) (i := 6) (lo := 0) (hi := 500) rfl rfl
  have b_3 := g_b hG (a := 1) (i := 1) (lo := 0) (hi := 500) rfl rfl
  have b_4 := g_b hG (a := 77) (i := 1) (lo := 0) (hi := 500) rfl rfl
  have b_5 := g_b hG (a := 0) (i := 12) (lo := 0) (hi := 30) rfl rfl
  have b_6 := g_b hG (a := 77) (i := 28) (lo := 0) (hi := 30) rfl rfl
  have b_7 := g_b hG (a := 6) (i := 0) (lo := 0) (hi := 150) rfl rfl
  have b_8 := g_b hG (a := 77) (i := 29) (lo := 0) (hi := 150) rfl rfl
  refine to_an (pc := 274) rw_0_274 rfl (to_an (pc := 275) rw_0_275 rfl (to_i (pc := 276) rw_0_276 rfl (to_c (pc := 278) rw_0_278 (x := (1 : Int32)) rfl rfl (s_add (pc := 279) rw_0_279 (A := i.toInt) (B := 1) rfl rfl (by omega) (fun v9 e10 => s_x0 (pc := 280) rw_0_280 hL (A := v9.toInt) rfl (by omega) (by omega) (fun v11 e12 => s_v (pc := 281) rw_0_281 (dp0 hd (by decide)) (ls0 := [.ref 0, .int v11]) rfl (Nat.le_of_ble_eq_true rfl) (Nat.le_of_ble_eq_true rfl) rfl (to_rc rfl rfl rfl (g_o hG rfl)) rfl ?_))))))
  obtain ⟨pz13, pzz13, qz13, qzz13, hpz13, hpzz13, hqz13, hqzz13, hpqz13⟩ := id jPQE
  refine C_112 hX (dp1 hd (by decide)) hG hpz13 hpzz13 hqz13 hqzz13 hpqz13 jNI jPI jQI (n := v11) (p := pz13) (pz := pzz13) (q := qz13) (qz := qzz13) (fun r14 M22 hG16 F15 p_17 p_18 p_19 p_20 p_21 => ?_)
  have n_23 : M22.1.2.1 = M.1.2.1 ∧ M22.1.2.2.1 = M.1.2.2.1 := by rw [F15.1]; exact ⟨rfl, rfl⟩
  have b_25 := g_b hG16 (a := 1) (i := 1) (lo := 0) (hi := 500) rfl rfl
  have z_26 := TP_s jTP (by omega) (fun a i z => (F_n F15 (show ¬ (a = 1 ∨ 3 ≤ a ∧ a ≤ 5 ∨ 11 ≤ a ∧ a ≤ 16 ∨ 18 ≤ a ∧ a ≤ 48) by omega) rfl))
  refine to_popi (pc := 284) rw_0_284 (to_an (pc := 285) rw_0_285 rfl (to_an (pc := 286) rw_0_286 rfl (to_i (pc := 287) rw_0_287 rfl (to_c (pc := 289) rw_0_289 (x := (1 : Int32)) rfl rfl (s_addk (pc := 290) rw_0_290 (A := i.toInt) (B := 1) rfl rfl (by omega) (v := v9) e10 (s_x0k (pc := 291) rw_0_291 hL (A := v9.toInt) rfl (by omega) (by omega) (v := v11) e12 (s_v (pc := 292) rw_0_292 (dp0 hd (by decide)) (ls0 := [.ref 77, .int v11]) rfl (Nat.le_of_ble_eq_true rfl) (Nat.le_of_ble_eq_true rfl) rfl (to_rc rfl rfl rfl (g_o hG16 rfl)) rfl ?_)))))))
  have c_29 : M22.2.1 77 1 = (M.2.1 77 1) := (F_n F15 (show ¬ (77 = 1 ∨ 3 ≤ 77 ∧ 77 ≤ 5 ∨ 11 ≤ 77 ∧ 77 ≤ 16 ∨ 18 ≤ 77 ∧ 77 ≤ 48) by decide) rfl)
  have t_30 : (M22.2.1 77 1).toInt = (M.2.1 77 1).toInt := congrArg Int32.toInt c_29
  have c_31 : M22.2.1 77 7 = (M.2.1 77 7) := (F_n F15 (show ¬ (77 = 1 ∨ 3 ≤ 77 ∧ 77 ≤ 5 ∨ 11 ≤ 77 ∧ 77 ≤ 16 ∨ 18 ≤ 77 ∧ 77 ≤ 48) by decide) rfl)
  have t_32 : (M22.2.1 77 7).toInt = (M.2.1 77 7).toInt := congrArg Int32.toInt c_31
  have c_33 : M22.2.1 77 6 = (M.2.1 77 6) := (F_n F15 (show ¬ (77 = 1 ∨ 3 ≤ 77 ∧ 77 ≤ 5 ∨ 11 ≤ 77 ∧ 77 ≤ 16 ∨ 18 ≤ 77 ∧ 77 ≤ 48) by decide) rfl)
  have t_34 : (M22.2.1 77 6).toInt = (M.2.1 77 6).toInt := congrArg Int32.toInt c_33
  have j_35 := (FA_f (tg_397 F15) jFA)
  have j_36 := (WC_f (tg_398 F15) jWC)
  have j_37 := (NJ_f (tg_399 F15) jNJ)
  have j_38 := (PS_f (tg_400 F15) jPS)
  have j_39 := (KQ_f (tg_401 F15) jKQ)
  refine C_219 hX (dp1 hd (by decide)) hG16 (by omega) j_35 j_36 j_37 j_38 j_39 (n := v11) (fun r40 M51 hG42 F41 p_43 p_44 p_45 p_46 p_47 p_48 p_49 p_50 => ?_)
  have n_52 : M51.1.2.1 = M22.1.2.1 ∧ M51.1.2.2.1 = M22.1.2.2.1 := by rw [F41.1]; exact ⟨rfl, rfl⟩
  have b_54 := g_b hG42 (a := 77) (i := 7) (lo := 0) (hi := 500) rfl rfl
  have b_55 := g_b hG42 (a := 77) (i := 6) (lo := 0) (hi := 500) rfl rfl
  have b_56 := g_b hG42 (a := 77) (i := 1) (lo := 0) (hi := 500) rfl rfl
  refine to_popi (pc := 295) rw_0_295 (to_go (pc := 296) rw_0_296 ?_)
  have c_57 : M51.2.1 1 1 = (M22.2.1 1 1) := (F_n F41 (show ¬ (1 = 77 ∧ (1 ≤ 1 ∧ 1 ≤ 2 ∨ 4 ≤ 1 ∧ 1 ≤ 10 ∨ 42 ≤ 1 ∧ 1 ≤ 44 ∨ 1 = 52) ∨ 94 ≤ 1 ∧ 1 ≤ 111) by decide) rfl)
  have t_58 : (M51.2.1 1 1).toInt = (M22.2.1 1 1).toInt := congrArg Int32.toInt c_57
  have c_59 : M51.2.1 0 12 = (M.2.1 0 12) := (F_n F41 (show ¬ (0 = 77 ∧ (1 ≤ 12 ∧ 12 ≤ 2 ∨ 4 ≤ 12 ∧ 12 ≤ 10 ∨ 42 ≤ 12 ∧ 12 ≤ 44 ∨ 12 = 52) ∨ 94 ≤ 0 ∧ 0 ≤ 111) by decide) (F_n F15 (show ¬ (0 = 1 ∨ 3 ≤ 0 ∧ 0 ≤ 5 ∨ 11 ≤ 0 ∧ 0 ≤ 16 ∨ 18 ≤ 0 ∧ 0 ≤ 48) by decide) rfl))
  have t_60 : (M51.2.1 0 12).toInt = (M.2.1 0 12).toInt := congrArg Int32.toInt c_59
  have c_61 : M51.2.1 77 28 = (M.2.1 77 28) := (F_n F41 (show ¬ (77 = 77 ∧ (1 ≤ 28 ∧ 28 ≤ 2 ∨ 4 ≤ 28 ∧ 28 ≤ 10 ∨ 42 ≤ 28 ∧ 28 ≤ 44 ∨ 28 = 52) ∨ 94 ≤ 77 ∧ 77 ≤ 111) by decide) (F_n F15 (show ¬ (77 = 1 ∨ 3 ≤ 77 ∧ 77 ≤ 5 ∨ 11 ≤ 77 ∧ 77 ≤ 16 ∨ 18 ≤ 77 ∧ 77 ≤ 48) by decide) rfl))
  have t_62 : (M51.2.1 77 28).toInt = (M.2.1 77 28).toInt := congrArg Int32.toInt c_61
  have c_63 : M51.2.1 17 4 = (M.2.1 17 4) := (F_n F41 (show ¬ (17 = 77 ∧ (1 ≤ 4 ∧ 4 ≤ 2 ∨ 4 ≤ 4 ∧ 4 ≤ 10 ∨ 42 ≤ 4 ∧ 4 ≤ 44 ∨ 4 = 52) ∨ 94 ≤ 17 ∧ 17 ≤ 111) by decide) (F_n F15 (show ¬ (17 = 1 ∨ 3 ≤ 17 ∧ 17 ≤ 5 ∨ 11 ≤ 17 ∧ 17 ≤ 16 ∨ 18 ≤ 17 ∧ 17 ≤ 48) by decide) rfl))
  have t_64 : (M51.2.1 17 4).toInt = (M.2.1 17 4).toInt := congrArg Int32.toInt c_63
  have c_65 : M51.2.1 77 41 = (M.2.1 77 41) := (F_n F41 (show ¬ (77 = 77 ∧ (1 ≤ 41 ∧ 41 ≤ 2 ∨ 4 ≤ 41 ∧ 41 ≤ 10 ∨ 42 ≤ 41 ∧ 41 ≤ 44 ∨ 41 = 52) ∨ 94 ≤ 77 ∧ 77 ≤ 111) by decide) (F_n F15 (show ¬ (77 = 1 ∨ 3 ≤ 77 ∧ 77 ≤ 5 ∨ 11 ≤ 77 ∧ 77 ≤ 16 ∨ 18 ≤ 77 ∧ 77 ≤ 48) by decide) rfl))
  have t_66 : (M51.2.1 77 41).toInt = (M.2.1 77 41).toInt := congrArg Int32.toInt c_65
  have c_67 : M51.2.1 6 0 = (M.2.1 6 0) := (F_n F41 (show ¬ (6 = 77 ∧ (1 ≤ 0 ∧ 0 ≤ 2 ∨ 4 ≤ 0 ∧ 0 ≤ 10 ∨ 42 ≤ 0 ∧ 0 ≤ 44 ∨ 0 = 52) ∨ 94 ≤ 6 ∧ 6 ≤ 111) by decide) (F_n F15 (show ¬ (6 = 1 ∨ 3 ≤ 6 ∧ 6 ≤ 5 ∨ 11 ≤ 6 ∧ 6 ≤ 16 ∨ 18 ≤ 6 ∧ 6 ≤ 48) by decide) rfl))
  have t_68 : (M51.2.1 6 0).toInt = (M.2.1 6 0).toInt := congrArg Int32.toInt c_67
  have c_69 : M51.2.1 77 29 = (M.2.1 77 29) := (F_n F41 (show ¬ (77 = 77 ∧ (1 ≤ 29 ∧ 29 ≤ 2 ∨ 4 ≤ 29 ∧ 29 ≤ 10 ∨ 42 ≤ 29 ∧ 29 ≤ 44 ∨ 29 = 52) ∨ 94 ≤ 77 ∧ 77 ≤ 111) by decide) (F_n F15 (show ¬ (77 = 1 ∨ 3 ≤ 77 ∧ 77 ≤ 5 ∨ 11 ≤ 77 ∧ 77 ≤ 16 ∨ 18 ≤ 77 ∧ 77 ≤ 48) by decide) rfl))
  have t_70 : (M51.2.1 77 29).toInt = (M.2.1 77 29).toInt := congrArg Int32.toInt c_69
  have j_71 := (PI_f (tg_402 F41) p_19)
  have j_72 := (NI_f (tg_403 F41) p_20)
  have j_73 := (QI_f (tg_404 F41) p_21)
  have j_74 := (PQE_r F41.2.1 (PQE_r F15.2.1 jPQE))
  have j_75 := (TP_f (tg_405 F41) z_26)
  have j_76 := (W9_f (tg_406 F41) (W9_f (tg_407 F15) jW9))
  have j_77 := (AN_F F41 tg_496 (AN_F F15 tg_497 jAN))
  have j_78 := (NE_r F41.2.1 (NE_r F15.2.1 jNE))
  have j_79 := (W8_f (tg_408 F41) (W8_f (tg_409 F15) jW8))
  exact h M51 (u5) (u6) ⟨⟨⟨⟨⟨⟨⟨⟨hG42, ⟨j_71, j_72, j_73, j_74⟩, ⟨p_44, p_45, p_46, p_47, p_48⟩, by omega, by omega⟩, j_75, j_76⟩, j_78, by omega⟩, AN_a j_77⟩, by omega⟩, j_79⟩, by omega⟩, j_77⟩ (by omega) (by omega)
set_option maxRecDepth 4000 in
set_option maxHeartbeats 0 in
theorem LW_3 {X : mm_X} {d L : Nat} {M : mm_M} {Q : Option Value → mm_M → Prop} {i : Int32} {u5 u6 : Value} (hX : g_X X) (hW : g_W X) (hW2 : g_W2 X) (hL : (X 0).1 = L) (h3 : L ≤ 3072) (hd : 40 ≤ d) (hi : 0 ≤ i.toInt) (hi2 : i.toInt + 6 ≤ (L : Int)) (H : LI9 M) (h : ∀ (M1 : mm_M) (v5 v6 : Value), LI9 M1 → M1.1.2.1 ≤ M.1.2.1 + 1 → M1.1.2.2.1 ≤ M.1.2.2.1 + 6 → mm_T X d 0 1313 [.ref mm_ext, .ref 0, .ref 77, .ref 125, .int i, v5, v6] [] M1 Q) : mm_T X d 0 299 [.ref mm_ext, .ref 0, .ref 77, .ref 125, .int i, u5, u6] [] M Q := by
  obtain ⟨⟨⟨⟨⟨⟨⟨⟨hG, ⟨jPI, jNI, jQI, jPQE⟩, ⟨jFA, jWC, jNJ, jPS, jKQ⟩, jJ, jE⟩, jTP, jW9⟩, jNE, jCC⟩, -⟩, jOV⟩, jW8⟩, jNN⟩, jAN⟩ := H
  have b_1 := g_b hG (a := 77) (i := 7) (lo := 0) (hi := 500) rfl rfl
  have b_2 := g_b hG (a := 77) (i := 6) (lo := 0) (hi := 500) rfl rfl
  have b_3 := g_b hG (a := 1) (i := 1) (lo := 0) (hi := 500) rfl rfl
  have b_4 := g_b hG (a := 77) (i := 1) (lo := 0) (hi := 500) rfl rfl
  have b_5 := g_b hG (a := 0) (i := 12) (lo := 0) (hi := 30) rfl rfl
  have b_6 := g_b hG (a := 77) (i := 28) (lo := 0) (hi := 30) rfl rfl
  have b_7 := g_b hG (a := 6) (i := 0) (lo := 0) (hi := 150) rfl rfl
  have b_8 := g_b hG (a := 77) (i := 29) (lo := 0) (hi := 150) rfl rfl
  refine to_an (pc := 299) rw_0_299 rfl (to_an (pc := 300) rw_0_300 rfl (to_i (pc := 301) rw_0_301 rfl (to_c (pc := 303) rw_0_303 (x := (1 : Int32)) rfl rfl (s_add (pc := 304) rw_0_304 (A := i.toInt) (B := 1) rfl rfl (by omega) (fun v9 e10 => s_x0 (pc := 305) rw_0_305 hL (A := v9.toInt) rfl (by omega) (by omega) (fun v11 e12 => s_v (pc := 306) rw_0_306 (dp0 hd (by decide)) (ls0 := [.ref 0, .int v11, .null]) rfl (Nat.le_of_ble_eq_true rfl) (Nat.le_of_ble_eq_true rfl) rfl (to_rc rfl rfl rfl (g_o hG rfl)) rfl ?_))))))
  obtain ⟨pz13, pzz13, qz13, qzz13, hpz13, hpzz13, hqz13, hqzz13, hpqz13⟩ := id jPQE
  refine C_113 hX (dp1 hd (by decide)) hG hpz13 hpzz13 hqz13 hqzz13 hpqz13 jQI jPI jNI (n := v11) (p := pz13) (pz := pzz13) (q := qz13) (qz := qzz13) (fun r14 M23 hG16 F15 p_17 p_18 p_19 p_20 p_21 p_22 => ?_)
  have n_24 : M23.1.2.1 = M.1.2.1 ∧ M23.1.2.2.1 = M.1.2.2.1 := by rw [F15.1]; exact ⟨rfl, rfl⟩
  have b_26 := g_b hG16 (a := 1) (i := 1) (lo := 0) (hi := 500) rfl rfl
  have z_27 := TP_s jTP (by omega) (fun a i z => (Fx_n F15 (show ¬ (a = 1 ∨ 3 ≤ a ∧ a ≤ 5 ∨ 67 ≤ a ∧ a ≤ 76) by omega) rfl))
  have z_28 := AN_X F15 (fun a i z => show ¬ (a = 1 ∨ 3 ≤ a ∧ a ≤ 5 ∨ 67 ≤ a ∧ a ≤ 76) by omega) (QQ_8 hpqz13 p_20) jAN
  refine to_popi (pc := 309) rw_0_309 (to_an (pc := 310) rw_0_310 rfl (to_an (pc := 311) rw_0_311 rfl (to_i (pc := 312) rw_0_312 rfl (to_c (pc := 314) rw_0_314 (x := (1 : Int32)) rfl rfl (s_addk (pc := 315) rw_0_315 (A := i.toInt) (B := 1) rfl rfl (by omega) (v := v9) e10 (s_x0k (pc := 316) rw_0_316 hL (A := v9.toInt) rfl (by omega) (by omega) (v := v11) e12 (s_v (pc := 317) rw_0_317 (dp0 hd (by decide)) (ls0 := [.ref 77, .int v11, .null]) rfl (Nat.le_of_ble_eq_true rfl) (Nat.le_of_ble_eq_true rfl) rfl (to_rc rfl rfl rfl (g_o hG16 rfl)) rfl ?_)))))))
  have c_31 : M23.2.1 77 1 = (M.2.1 77 1) := (Fx_n F15 (show ¬ (77 = 1 ∨ 3 ≤ 77 ∧ 77 ≤ 5 ∨ 67 ≤ 77 ∧ 77 ≤ 76) by decide) rfl)
  have t_32 : (M23.2.1 77 1).toInt = (M.2.1 77 1).toInt := congrArg Int32.toInt c_31
  have c_33 : M23.2.1 77 7 = (M.2.1 77 7) := (Fx_n F15 (show ¬ (77 = 1 ∨ 3 ≤ 77 ∧ 77 ≤ 5 ∨ 67 ≤ 77 ∧ 77 ≤ 76) by decide) rfl)
  have t_34 : (M23.2.1 77 7).toInt = (M.2.1 77 7).toInt := congrArg Int32.toInt c_33
  have c_35 : M23.2.1 77 6 = (M.2.1 77 6) := (Fx_n F15 (show ¬ (77 = 1 ∨ 3 ≤ 77 ∧ 77 ≤ 5 ∨ 67 ≤ 77 ∧ 77 ≤ 76) by decide) rfl)
  have t_36 : (M23.2.1 77 6).toInt = (M.2.1 77 6).toInt := congrArg Int32.toInt c_35
  have j_37 := (FA_f (tg_410 F15) jFA)
  have j_38 := (WC_f (tg_411 F15) jWC)
  have j_39 := (NJ_f (tg_412 F15) jNJ)
  have j_40 := (PS_f (tg_413 F15) jPS)
  have j_41 := (KQ_f (tg_414 F15) jKQ)
  refine C_227 hX (dp1 hd (by decide)) hG16 (by omega) j_37 j_38 j_39 j_40 j_41 (n := v11) (fun r42 M53 hG44 F43 p_45 p_46 p_47 p_48 p_49 p_50 p_51 p_52 => ?_)
  have n_54 : M53.1.2.1 = M23.1.2.1 ∧ M53.1.2.2.1 = M23.1.2.2.1 := by rw [F43.1]; exact ⟨rfl, rfl⟩
  have b_56 := g_b hG44 (a := 77) (i := 7) (lo := 0) (hi := 500) rfl rfl
  have b_57 := g_b hG44 (a := 77) (i := 6) (lo := 0) (hi := 500) rfl rfl
  have b_58 := g_b hG44 (a := 77) (i := 1) (lo := 0) (hi := 500) rfl rfl
  refine to_popi (pc := 320) rw_0_320 (to_go (pc := 321) rw_0_321 ?_)
  have c_59 : M53.2.1 1 1 = (M23.2.1 1 1) := (F_n F43 (show ¬ (1 = 77 ∧ (1 ≤ 1 ∧ 1 ≤ 2 ∨ 4 ≤ 1 ∧ 1 ≤ 10 ∨ 57 ≤ 1 ∧ 1 ≤ 59 ∨ 65 ≤ 1 ∧ 1 ≤ 69) ∨ 112 ≤ 1 ∧ 1 ≤ 116) by decide) rfl)
  have t_60 : (M53.2.1 1 1).toInt = (M23.2.1 1 1).toInt := congrArg Int32.toInt c_59
  have c_61 : M53.2.1 0 12 = (M.2.1 0 12) := (F_n F43 (show ¬ (0 = 77 ∧ (1 ≤ 12 ∧ 12 ≤ 2 ∨ 4 ≤ 12 ∧ 12 ≤ 10 ∨ 57 ≤ 12 ∧ 12 ≤ 59 ∨ 65 ≤ 12 ∧ 12 ≤ 69) ∨ 112 ≤ 0 ∧ 0 ≤ 116) by decide) (Fx_n F15 (show ¬ (0 = 1 ∨ 3 ≤ 0 ∧ 0 ≤ 5 ∨ 67 ≤ 0 ∧ 0 ≤ 76) by decide) rfl))
  have t_62 : (M53.2.1 0 12).toInt = (M.2.1 0 12).toInt := congrArg Int32.toInt c_61
  have c_63 : M53.2.1 77 28 = (M.2.1 77 28) := (F_n F43 (show ¬ (77 = 77 ∧ (1 ≤ 28 ∧ 28 ≤ 2 ∨ 4 ≤ 28 ∧ 28 ≤ 10 ∨ 57 ≤ 28 ∧ 28 ≤ 59 ∨ 65 ≤ 28 ∧ 28 ≤ 69) ∨ 112 ≤ 77 ∧ 77 ≤ 116) by decide) (Fx_n F15 (show ¬ (77 = 1 ∨ 3 ≤ 77 ∧ 77 ≤ 5 ∨ 67 ≤ 77 ∧ 77 ≤ 76) by decide) rfl))
  have t_64 : (M53.2.1 77 28).toInt = (M.2.1 77 28).toInt := congrArg Int32.toInt c_63
  have c_65 : M53.2.1 17 4 = (M.2.1 17 4) := (F_n F43 (show ¬ (17 = 77 ∧ (1 ≤ 4 ∧ 4 ≤ 2 ∨ 4 ≤ 4 ∧ 4 ≤ 10 ∨ 57 ≤ 4 ∧ 4 ≤ 59 ∨ 65 ≤ 4 ∧ 4 ≤ 69) ∨ 112 ≤ 17 ∧ 17 ≤ 116) by decide) (Fx_n F15 (show ¬ (17 = 1 ∨ 3 ≤ 17 ∧ 17 ≤ 5 ∨ 67 ≤ 17 ∧ 17 ≤ 76) by decide) rfl))
  have t_66 : (M53.2.1 17 4).toInt = (M.2.1 17 4).toInt := congrArg Int32.toInt c_65
  have c_67 : M53.2.1 77 41 = (M.2.1 77 41) := (F_n F43 (show ¬ (77 = 77 ∧ (1 ≤ 41 ∧ 41 ≤ 2 ∨ 4 ≤ 41 ∧ 41 ≤ 10 ∨ 57 ≤ 41 ∧ 41 ≤ 59 ∨ 65 ≤ 41 ∧ 41 ≤ 69) ∨ 112 ≤ 77 ∧ 77 ≤ 116) by decide) (Fx_n F15 (show ¬ (77 = 1 ∨ 3 ≤ 77 ∧ 77 ≤ 5 ∨ 67 ≤ 77 ∧ 77 ≤ 76) by decide) rfl))
  have t_68 : (M53.2.1 77 41).toInt = (M.2.1 77 41).toInt := congrArg Int32.toInt c_67
  have c_69 : M53.2.1 6 0 = (M.2.1 6 0) := (F_n F43 (show ¬ (6 = 77 ∧ (1 ≤ 0 ∧ 0 ≤ 2 ∨ 4 ≤ 0 ∧ 0 ≤ 10 ∨ 57 ≤ 0 ∧ 0 ≤ 59 ∨ 65 ≤ 0 ∧ 0 ≤ 69) ∨ 112 ≤ 6 ∧ 6 ≤ 116) by decide) (Fx_n F15 (show ¬ (6 = 1 ∨ 3 ≤ 6 ∧ 6 ≤ 5 ∨ 67 ≤ 6 ∧ 6 ≤ 76) by decide) rfl))
  have t_70 : (M53.2.1 6 0).toInt = (M.2.1 6 0).toInt := congrArg Int32.toInt c_69
  have c_71 : M53.2.1 77 29 = (M.2.1 77 29) := (F_n F43 (show ¬ (77 = 77 ∧ (1 ≤ 29 ∧ 29 ≤ 2 ∨ 4 ≤ 29 ∧ 29 ≤ 10 ∨ 57 ≤ 29 ∧ 29 ≤ 59 ∨ 65 ≤ 29 ∧ 29 ≤ 69) ∨ 112 ≤ 77 ∧ 77 ≤ 116) by decide) (Fx_n F15 (show ¬ (77 = 1 ∨ 3 ≤ 77 ∧ 77 ≤ 5 ∨ 67 ≤ 77 ∧ 77 ≤ 76) by decide) rfl))
  have t_72 : (M53.2.1 77 29).toInt = (M.2.1 77 29).toInt := congrArg Int32.toInt c_71
  have j_73 := (PI_f (tg_415 F43) p_21)
  have j_74 := (NI_f (tg_416 F43) p_22)
  have j_75 := (QI_f (tg_417 F43) p_19)
  have j_76 := (PQE_r F43.2.1 (PQE_qq hpz13 hpzz13 hqz13 hqzz13 p_20))
  have j_77 := (TP_f (tg_418 F43) z_27)
  have j_78 := (W9_f (tg_419 F43) (W9_f (tg_420 F15) jW9))
  have j_79 := (AN_F F43 tg_498 z_28)
  have j_80 := (NE_r F43.2.1 (NE_q hpqz13 p_20 jNE))
  have j_81 := (W8_f (tg_421 F43) (W8_f (tg_422 F15) jW8))
  exact h M53 (u5) (u6) ⟨⟨⟨⟨⟨⟨⟨⟨hG44, ⟨j_73, j_74, j_75, j_76⟩, ⟨p_46, p_47, p_48, p_49, p_50⟩, by omega, by omega⟩, j_77, j_78⟩, j_80, by omega⟩, AN_a j_79⟩, by omega⟩, j_81⟩, by omega⟩, j_79⟩ (by omega) (by omega)
set_option maxRecDepth 4000 in
set_option maxHeartbeats 0 in
theorem LW_4 {X : mm_X} {d L : Nat} {M : mm_M} {Q : Option Value → mm_M → Prop} {i : Int32} {u5 u6 : Value} (hX : g_X X) (hW : g_W X) (hW2 : g_W2 X) (hL : (X 0).1 = L) (h3 : L ≤ 3072) (hd : 40 ≤ d) (hi : 0 ≤ i.toInt) (hi2 : i.toInt + 6 ≤ (L : Int)) (H : LI9 M) (h : ∀ (M1 : mm_M) (v5 v6 : Value), LI9 M1 → M1.1.2.1 ≤ M.1.2.1 + 1 → M1.1.2.2.1 ≤ M.1.2.2.1 + 6 → mm_T X d 0 1313 [.ref mm_ext, .ref 0, .ref 77, .ref 125, .int i, v5, v6] [] M1 Q) : mm_T X d 0 324 [.ref mm_ext, .ref 0, .ref 77, .ref 125, .int i, u5, u6] [] M Q := by
  obtain ⟨⟨⟨⟨⟨⟨⟨⟨hG, ⟨jPI, jNI, jQI, jPQE⟩, ⟨jFA, jWC, jNJ, jPS, jKQ⟩, jJ, jE⟩, jTP, jW9⟩, jNE, jCC⟩, -⟩, jOV⟩, jW8⟩, jNN⟩, jAN⟩ := H
  have b_1 := g_b hG (a := 77) (i := 7) (lo := 0) (hi := 500) rfl rfl
  have b_2 := g_b hG (a := 77) (i := 6) (lo := 0) (hi := 500) rfl rfl
  have b_3 := g_b hG (a := 1) (i := 1) (lo := 0) (hi := 500) rfl rfl
  have b_4 := g_b hG (a := 77) (i := 1) (lo := 0) (hi := 500) rfl rfl
  have b_5 := g_b hG (a := 0) (i := 12) (lo := 0) (hi := 30) rfl rfl
  have b_6 := g_b hG (a := 77) (i := 28) (lo := 0) (hi := 30) rfl rfl
  have b_7 := g_b hG (a := 6) (i := 0) (lo := 0) (hi := 150) rfl rfl
  have b_8 := g_b hG (a := 77) (i := 29) (lo := 0) (hi := 150) rfl rfl
  refine to_an (pc := 324) rw_0_324 rfl (to_an (pc := 325) rw_0_325 rfl (to_i (pc := 326) rw_0_326 rfl (to_c (pc := 328) rw_0_328 (x := (1 : Int32)) rfl rfl (s_add (pc := 329) rw_0_329 (A := i.toInt) (B := 1) rfl rfl (by omega) (fun v9 e10 => s_x0 (pc := 330) rw_0_330 hL (A := v9.toInt) rfl (by omega) (by omega) (fun v11 e12 => s_v (pc := 331) rw_0_331 (dp0 hd (by decide)) (ls0 := [.ref 0, .int v11]) rfl (Nat.le_of_ble_eq_true rfl) (Nat.le_of_ble_eq_true rfl) rfl (to_rc rfl rfl rfl (g_o hG rfl)) rfl ?_))))))
  obtain ⟨pz13, pzz13, qz13, qzz13, hpz13, hpzz13, hqz13, hqzz13, hpqz13⟩ := id jPQE
  refine C_114 hX (dp1 hd (by decide)) hG hpz13 hpzz13 hqz13 hqzz13 hpqz13 (w := v11) (p := pz13) (pz := pzz13) (q := qz13) (qz := qzz13) (fun r14 M17 hG16 F15 => ?_)
  have n_18 : M17.1.2.1 = M.1.2.1 ∧ M17.1.2.2.1 = M.1.2.2.1 := by rw [F15.1]; exact ⟨rfl, rfl⟩
  refine to_popi (pc := 334) rw_0_334 (to_an (pc := 335) rw_0_335 rfl (to_an (pc := 336) rw_0_336 rfl (to_i (pc := 337) rw_0_337 rfl (to_c (pc := 339) rw_0_339 (x := (1 : Int32)) rfl rfl (s_addk (pc := 340) rw_0_340 (A := i.toInt) (B := 1) rfl rfl (by omega) (v := v9) e10 (s_x0k (pc := 341) rw_0_341 hL (A := v9.toInt) rfl (by omega) (by omega) (v := v11) e12 (s_v (pc := 342) rw_0_342 (dp0 hd (by decide)) (ls0 := [.ref 77, .int v11]) rfl (Nat.le_of_ble_eq_true rfl) (Nat.le_of_ble_eq_true rfl) rfl (to_rc rfl rfl rfl (g_o hG16 rfl)) rfl (C_174 hX (dp1 hd (by decide)) hG16 (w := v11) (fun r22 M25 hG24 F23 => ?_)))))))))
  have n_26 : M25.1.2.1 = M17.1.2.1 ∧ M25.1.2.2.1 = M17.1.2.2.1 := by rw [F23.1]; exact ⟨rfl, rfl⟩
  refine to_popi (pc := 345) rw_0_345 (to_go (pc := 346) rw_0_346 ?_)
  have c_28 : M25.2.1 77 7 = (M.2.1 77 7) := (F_n F23 (show ¬ (77 = 77 ∧ 7 = 2) by decide) (F_n F15 (show ¬ (77 < 0) by decide) rfl))
  have t_29 : (M25.2.1 77 7).toInt = (M.2.1 77 7).toInt := congrArg Int32.toInt c_28
  have c_30 : M25.2.1 77 6 = (M.2.1 77 6) := (F_n F23 (show ¬ (77 = 77 ∧ 6 = 2) by decide) (F_n F15 (show ¬ (77 < 0) by decide) rfl))
  have t_31 : (M25.2.1 77 6).toInt = (M.2.1 77 6).toInt := congrArg Int32.toInt c_30
  have c_32 : M25.2.1 1 1 = (M.2.1 1 1) := (F_n F23 (show ¬ (1 = 77 ∧ 1 = 2) by decide) (F_n F15 (show ¬ (1 < 0) by decide) rfl))
  have t_33 : (M25.2.1 1 1).toInt = (M.2.1 1 1).toInt := congrArg Int32.toInt c_32
  have c_34 : M25.2.1 77 1 = (M.2.1 77 1) := (F_n F23 (show ¬ (77 = 77 ∧ 1 = 2) by decide) (F_n F15 (show ¬ (77 < 0) by decide) rfl))
  have t_35 : (M25.2.1 77 1).toInt = (M.2.1 77 1).toInt := congrArg Int32.toInt c_34
  have c_36 : M25.2.1 0 12 = (M.2.1 0 12) := (F_n F23 (show ¬ (0 = 77 ∧ 12 = 2) by decide) (F_n F15 (show ¬ (0 < 0) by decide) rfl))
  have t_37 : (M25.2.1 0 12).toInt = (M.2.1 0 12).toInt := congrArg Int32.toInt c_36
  have c_38 : M25.2.1 77 28 = (M.2.1 77 28) := (F_n F23 (show ¬ (77 = 77 ∧ 28 = 2) by decide) (F_n F15 (show ¬ (77 < 0) by decide) rfl))
  have t_39 : (M25.2.1 77 28).toInt = (M.2.1 77 28).toInt := congrArg Int32.toInt c_38
  have c_40 : M25.2.1 17 4 = (M.2.1 17 4) := (F_n F23 (show ¬ (17 = 77 ∧ 4 = 2) by decide) (F_n F15 (show ¬ (17 < 0) by decide) rfl))
  have t_41 : (M25.2.1 17 4).toInt = (M.2.1 17 4).toInt := congrArg Int32.toInt c_40
  have c_42 : M25.2.1 77 41 = (M.2.1 77 41) := (F_n F23 (show ¬ (77 = 77 ∧ 41 = 2) by decide) (F_n F15 (show ¬ (77 < 0) by decide) rfl))
  have t_43 : (M25.2.1 77 41).toInt = (M.2.1 77 41).toInt := congrArg Int32.toInt c_42
  have c_44 : M25.2.1 6 0 = (M.2.1 6 0) := (F_n F23 (show ¬ (6 = 77 ∧ 0 = 2) by decide) (F_n F15 (show ¬ (6 < 0) by decide) rfl))
  have t_45 : (M25.2.1 6 0).toInt = (M.2.1 6 0).toInt := congrArg Int32.toInt c_44
  have c_46 : M25.2.1 77 29 = (M.2.1 77 29) := (F_n F23 (show ¬ (77 = 77 ∧ 29 = 2) by decide) (F_n F15 (show ¬ (77 < 0) by decide) rfl))
  have t_47 : (M25.2.1 77 29).toInt = (M.2.1 77 29).toInt := congrArg Int32.toInt c_46
  have j_48 := (PI_f (tg_423 F23) (PI_f (tg_99 F15) jPI))
  have j_49 := (NI_f (tg_424 F23) (NI_f (tg_98 F15) jNI))
  have j_50 := (QI_f (tg_425 F23) (QI_f (tg_100 F15) jQI))
  have j_51 := (PQE_r F23.2.1 (PQE_r F15.2.1 jPQE))
  have j_52 := (FA_f (tg_426 F23) (FA_f (tg_218 F15) jFA))
  have j_53 := (WC_f (tg_427 F23) (WC_f (tg_428 F15) jWC))
  have j_54 := (NJ_f (tg_429 F23) (NJ_f (tg_102 F15) jNJ))
  have j_55 := (PS_f (tg_430 F23) (PS_f (tg_431 F15) jPS))
  have j_56 := (KQ_f (tg_432 F23) (KQ_f (tg_343 F15) jKQ))
  have j_57 := (TP_f (tg_433 F23) (TP_f (tg_434 F15) jTP))
  have j_58 := (W9_f (tg_435 F23) (W9_f (tg_46 F15) jW9))
  have j_59 := (AN_F F23 tg_499 (AN_F F15 tg_500 jAN))
  have j_60 := (NE_r F23.2.1 (NE_r F15.2.1 jNE))
  have j_61 := (W8_f (tg_436 F23) (W8_f (tg_437 F15) jW8))
  exact h M25 (u5) (u6) ⟨⟨⟨⟨⟨⟨⟨⟨hG24, ⟨j_48, j_49, j_50, j_51⟩, ⟨j_52, j_53, j_54, j_55, j_56⟩, by omega, by omega⟩, j_57, j_58⟩, j_60, by omega⟩, AN_a j_59⟩, by omega⟩, j_61⟩, by omega⟩, j_59⟩ (by omega) (by omega)
set_option maxRecDepth 4000 in
set_option maxHeartbeats 0 in
theorem LW_5 {X : mm_X} {d L : Nat} {M : mm_M} {Q : Option Value → mm_M → Prop} {i : Int32} {u5 u6 : Value} (hX : g_X X) (hW : g_W X) (hW2 : g_W2 X) (hL : (X 0).1 = L) (h3 : L ≤ 3072) (hd : 40 ≤ d) (hi : 0 ≤ i.toInt) (hi2 : i.toInt + 6 ≤ (L : Int)) (H : LI9 M) (h : ∀ (M1 : mm_M) (v5 v6 : Value), LI9 M1 → M1.1.2.1 ≤ M.1.2.1 + 1 → M1.1.2.2.1 ≤ M.1.2.2.1 + 6 → mm_T X d 0 1313 [.ref mm_ext, .ref 0, .ref 77, .ref 125, .int i, v5, v6] [] M1 Q) : mm_T X d 0 349 [.ref mm_ext, .ref 0, .ref 77, .ref 125, .int i, u5, u6] [] M Q := by
  obtain ⟨⟨⟨⟨⟨⟨⟨⟨hG, ⟨jPI, jNI, jQI, jPQE⟩, ⟨jFA, jWC, jNJ, jPS, jKQ⟩, jJ, jE⟩, jTP, jW9⟩, jNE, jCC⟩, -⟩, jOV⟩, jW8⟩, jNN⟩, jAN⟩ := H
  have b_1 := g_b hG (a := 77) (i := 7) (lo := 0) (hi := 500) rfl rfl
  have b_2 := g_b hG (a := 77) (i := 6) (lo := 0) (hi := 500) rfl rfl
  have b_3 := g_b hG (a := 1) (i := 1) (lo := 0) (hi := 500) rfl rfl
  have b_4 := g_b hG (a := 77) (i := 1) (lo := 0) (hi := 500) rfl rfl
  have b_5 := g_b hG (a := 0) (i := 12) (lo := 0) (hi := 30) rfl rfl
  have b_6 := g_b hG (a := 77) (i := 28) (lo := 0) (hi := 30) rfl rfl
  have b_7 := g_b hG (a := 6) (i := 0) (lo := 0) (hi := 150) rfl rfl
  have b_8 := g_b hG (a := 77) (i := 29) (lo := 0) (hi := 150) rfl rfl
  refine to_an (pc := 349) rw_0_349 rfl (to_an (pc := 350) rw_0_350 rfl (to_i (pc := 351) rw_0_351 rfl (to_c (pc := 353) rw_0_353 (x := (1 : Int32)) rfl rfl (s_add (pc := 354) rw_0_354 (A := i.toInt) (B := 1) rfl rfl (by omega) (fun v9 e10 => s_x0 (pc := 355) rw_0_355 hL (A := v9.toInt) rfl (by omega) (by omega) (fun v11 e12 => to_an (pc := 356) rw_0_356 rfl (to_i (pc := 357) rw_0_357 rfl (to_c (pc := 359) rw_0_359 (x := (2 : Int32)) rfl rfl (s_add (pc := 360) rw_0_360 (A := i.toInt) (B := 2) rfl rfl (by omega) (fun v13 e14 => s_x0 (pc := 361) rw_0_361 hL (A := v13.toInt) rfl (by omega) (by omega) (fun v15 e16 => s_v (pc := 362) rw_0_362 (dp0 hd (by decide)) (ls0 := [.ref 0, .int v11, .int v15]) rfl (Nat.le_of_ble_eq_true rfl) (Nat.le_of_ble_eq_true rfl) rfl (to_rc rfl rfl rfl (g_o hG rfl)) rfl ?_)))))))))))
  obtain ⟨pz17, pzz17, qz17, qzz17, hpz17, hpzz17, hqz17, hqzz17, hpqz17⟩ := id jPQE
  obtain ⟨sg, NN, nz, ca, hs1, hs2, hn1, hn2, hn3, hn4, hn5⟩ := AN_u jAN hpqz17
  refine E_115 hX (dp1 hd (by decide)) hG hpz17 hpzz17 hqz17 hqzz17 hpqz17 hs1.1 (w := v11) (l := v15) (sg := sg) (p := pz17) (pz := pzz17) (q := qz17) (qz := qzz17) (fun r18 M24 hG20 F19 p_21 p_22 p_23 => ?_)
  have n_25 : M24.1.2.1 = M.1.2.1 ∧ M24.1.2.2.1 = M.1.2.2.1 := by rw [F19.1]; exact ⟨rfl, rfl⟩
  refine to_popi (pc := 365) rw_0_365 (to_an (pc := 366) rw_0_366 rfl (to_an (pc := 367) rw_0_367 rfl (to_i (pc := 368) rw_0_368 rfl (to_c (pc := 370) rw_0_370 (x := (1 : Int32)) rfl rfl (s_addk (pc := 371) rw_0_371 (A := i.toInt) (B := 1) rfl rfl (by omega) (v := v9) e10 (s_x0k (pc := 372) rw_0_372 hL (A := v9.toInt) rfl (by omega) (by omega) (v := v11) e12 (to_an (pc := 373) rw_0_373 rfl (to_i (pc := 374) rw_0_374 rfl (to_c (pc := 376) rw_0_376 (x := (2 : Int32)) rfl rfl (s_addk (pc := 377) rw_0_377 (A := i.toInt) (B := 2) rfl rfl (by omega) (v := v13) e14 (s_x0k (pc := 378) rw_0_378 hL (A := v13.toInt) rfl (by omega) (by omega) (v := v15) e16 ?_)))))))))))
  refine s_v (pc := 379) rw_0_379 (dp0 hd (by decide)) (ls0 := [.ref 77, .int v11, .int v15]) rfl (Nat.le_of_ble_eq_true rfl) (Nat.le_of_ble_eq_true rfl) rfl (to_rc rfl rfl rfl (g_o hG20 rfl)) rfl ?_
  have j_31 := (PLk_f (tg_101 F19) hs2.1)
  refine E_177 hX (dp1 hd (by decide)) hG20 j_31 (w := v11) (l := v15) (sg := sg) (fun r32 M38 hG34 F33 p_35 p_36 p_37 => ?_)
  have n_39 : M38.1.2.1 = M24.1.2.1 ∧ M38.1.2.2.1 = M24.1.2.2.1 := by rw [F33.1]; exact ⟨rfl, rfl⟩
  refine to_popi (pc := 382) rw_0_382 (to_go (pc := 383) rw_0_383 ?_)
  have c_41 : M38.2.1 77 7 = (M.2.1 77 7) := (F_n F33 (show ¬ (77 = 77 ∧ 7 = 2) by decide) (F_n F19 (show ¬ (77 < 0) by decide) rfl))
  have t_42 : (M38.2.1 77 7).toInt = (M.2.1 77 7).toInt := congrArg Int32.toInt c_41
  have c_43 : M38.2.1 77 6 = (M.2.1 77 6) := (F_n F33 (show ¬ (77 = 77 ∧ 6 = 2) by decide) (F_n F19 (show ¬ (77 < 0) by decide) rfl))
  have t_44 : (M38.2.1 77 6).toInt = (M.2.1 77 6).toInt := congrArg Int32.toInt c_43
  have c_45 : M38.2.1 1 1 = (M.2.1 1 1) := (F_n F33 (show ¬ (1 = 77 ∧ 1 = 2) by decide) (F_n F19 (show ¬ (1 < 0) by decide) rfl))
  have t_46 : (M38.2.1 1 1).toInt = (M.2.1 1 1).toInt := congrArg Int32.toInt c_45
  have c_47 : M38.2.1 77 1 = (M.2.1 77 1) := (F_n F33 (show ¬ (77 = 77 ∧ 1 = 2) by decide) (F_n F19 (show ¬ (77 < 0) by decide) rfl))
  have t_48 : (M38.2.1 77 1).toInt = (M.2.1 77 1).toInt := congrArg Int32.toInt c_47
  have c_49 : M38.2.1 0 12 = (M.2.1 0 12) := (F_n F33 (show ¬ (0 = 77 ∧ 12 = 2) by decide) (F_n F19 (show ¬ (0 < 0) by decide) rfl))
  have t_50 : (M38.2.1 0 12).toInt = (M.2.1 0 12).toInt := congrArg Int32.toInt c_49
  have c_51 : M38.2.1 77 28 = (M.2.1 77 28) := (F_n F33 (show ¬ (77 = 77 ∧ 28 = 2) by decide) (F_n F19 (show ¬ (77 < 0) by decide) rfl))
  have t_52 : (M38.2.1 77 28).toInt = (M.2.1 77 28).toInt := congrArg Int32.toInt c_51
  have c_53 : M38.2.1 17 4 = (M.2.1 17 4) := (F_n F33 (show ¬ (17 = 77 ∧ 4 = 2) by decide) (F_n F19 (show ¬ (17 < 0) by decide) rfl))
  have t_54 : (M38.2.1 17 4).toInt = (M.2.1 17 4).toInt := congrArg Int32.toInt c_53
  have c_55 : M38.2.1 77 41 = (M.2.1 77 41) := (F_n F33 (show ¬ (77 = 77 ∧ 41 = 2) by decide) (F_n F19 (show ¬ (77 < 0) by decide) rfl))
  have t_56 : (M38.2.1 77 41).toInt = (M.2.1 77 41).toInt := congrArg Int32.toInt c_55
  have c_57 : M38.2.1 6 0 = (M.2.1 6 0) := (F_n F33 (show ¬ (6 = 77 ∧ 0 = 2) by decide) (F_n F19 (show ¬ (6 < 0) by decide) rfl))
  have t_58 : (M38.2.1 6 0).toInt = (M.2.1 6 0).toInt := congrArg Int32.toInt c_57
  have c_59 : M38.2.1 77 29 = (M.2.1 77 29) := (F_n F33 (show ¬ (77 = 77 ∧ 29 = 2) by decide) (F_n F19 (show ¬ (77 < 0) by decide) rfl))
  have t_60 : (M38.2.1 77 29).toInt = (M.2.1 77 29).toInt := congrArg Int32.toInt c_59
  have j_61 := (PI_f (tg_423 F33) (PI_f (tg_99 F19) jPI))
  have j_62 := (NI_f (tg_424 F33) (NI_f (tg_98 F19) jNI))
  have j_63 := (QI_f (tg_425 F33) (QI_f (tg_100 F19) jQI))
  have j_64 := (PQE_r F33.2.1 (PQE_r F19.2.1 jPQE))
  have j_65 := (FA_f (tg_426 F33) (FA_f (tg_218 F19) jFA))
  have j_66 := (WC_f (tg_427 F33) (WC_f (tg_428 F19) jWC))
  have j_67 := (NJ_f (tg_429 F33) (NJ_f (tg_102 F19) jNJ))
  have j_68 := (PS_f (tg_430 F33) (PS_f (tg_431 F19) jPS))
  have j_69 := (KQ_f (tg_432 F33) (KQ_f (tg_343 F19) jKQ))
  have j_70 := (TP_f (tg_433 F33) (TP_f (tg_434 F19) jTP))
  have j_71 := (W9_f (tg_435 F33) (W9_f (tg_46 F19) jW9))
  have j_72 := (AN_F F33 tg_499 (AN_F F19 tg_500 jAN))
  have j_73 := (NE_r F33.2.1 (NE_r F19.2.1 jNE))
  have j_74 := (W8_f (tg_436 F33) (W8_f (tg_437 F19) jW8))
  exact h M38 (u5) (u6) ⟨⟨⟨⟨⟨⟨⟨⟨hG34, ⟨j_61, j_62, j_63, j_64⟩, ⟨j_65, j_66, j_67, j_68, j_69⟩, by omega, by omega⟩, j_70, j_71⟩, j_73, by omega⟩, AN_a j_72⟩, by omega⟩, j_74⟩, by omega⟩, j_72⟩ (by omega) (by omega)
set_option maxRecDepth 4000 in
set_option maxHeartbeats 0 in
theorem LW_6 {X : mm_X} {d L : Nat} {M : mm_M} {Q : Option Value → mm_M → Prop} {i : Int32} {u5 u6 : Value} (hX : g_X X) (hW : g_W X) (hW2 : g_W2 X) (hL : (X 0).1 = L) (h3 : L ≤ 3072) (hd : 40 ≤ d) (hi : 0 ≤ i.toInt) (hi2 : i.toInt + 6 ≤ (L : Int)) (H : LI9 M) (h : ∀ (M1 : mm_M) (v5 v6 : Value), LI9 M1 → M1.1.2.1 ≤ M.1.2.1 + 1 → M1.1.2.2.1 ≤ M.1.2.2.1 + 6 → mm_T X d 0 1313 [.ref mm_ext, .ref 0, .ref 77, .ref 125, .int i, v5, v6] [] M1 Q) : mm_T X d 0 386 [.ref mm_ext, .ref 0, .ref 77, .ref 125, .int i, u5, u6] [] M Q := by
  obtain ⟨⟨⟨⟨⟨⟨⟨⟨hG, ⟨jPI, jNI, jQI, jPQE⟩, ⟨jFA, jWC, jNJ, jPS, jKQ⟩, jJ, jE⟩, jTP, jW9⟩, jNE, jCC⟩, -⟩, jOV⟩, jW8⟩, jNN⟩, jAN⟩ := H
  have b_1 := g_b hG (a := 77) (i := 7) (lo := 0) (hi := 500) rfl rfl
  have b_2 := g_b hG (a := 77) (i := 6) (lo := 0) (hi := 500) rfl rfl
  have b_3 := g_b hG (a := 1) (i := 1) (lo := 0) (hi := 500) rfl rfl
  have b_4 := g_b hG (a := 77) (i := 1) (lo := 0) (hi := 500) rfl rfl
  have b_5 := g_b hG (a := 0) (i := 12) (lo := 0) (hi := 30) rfl rfl
  have b_6 := g_b hG (a := 77) (i := 28) (lo := 0) (hi := 30) rfl rfl
  have b_7 := g_b hG (a := 6) (i := 0) (lo := 0) (hi := 150) rfl rfl
  have b_8 := g_b hG (a := 77) (i := 29) (lo := 0) (hi := 150) rfl rfl
  refine to_an (pc := 386) rw_0_386 rfl (to_an (pc := 387) rw_0_387 rfl (to_i (pc := 388) rw_0_388 rfl (to_c (pc := 390) rw_0_390 (x := (1 : Int32)) rfl rfl (s_add (pc := 391) rw_0_391 (A := i.toInt) (B := 1) rfl rfl (by omega) (fun v9 e10 => s_x0 (pc := 392) rw_0_392 hL (A := v9.toInt) rfl (by omega) (by omega) (fun v11 e12 => to_an (pc := 393) rw_0_393 rfl (to_i (pc := 394) rw_0_394 rfl (to_c (pc := 396) rw_0_396 (x := (2 : Int32)) rfl rfl (s_add (pc := 397) rw_0_397 (A := i.toInt) (B := 2) rfl rfl (by omega) (fun v13 e14 => s_x0 (pc := 398) rw_0_398 hL (A := v13.toInt) rfl (by omega) (by omega) (fun v15 e16 => to_an (pc := 399) rw_0_399 rfl ?_)))))))))))
  obtain ⟨sg, hs1, hs2⟩ := (AN_a jAN)
  refine s_lkE (pc := 400) rw_0_400 (by omega) rfl hG hs1 (fun r17 M22 hG18 K19 K20 K21 n_a n_b lk_1 lk_2 lk_4 lk_3 => to_is (pc := 403) rw_0_403 (ls2 := [.ref mm_ext, .ref 0, .ref 77, .ref 125, .int i, .int r17, u6]) rfl rfl (to_an (pc := 405) rw_0_405 rfl (to_an (pc := 406) rw_0_406 rfl (to_i (pc := 407) rw_0_407 rfl (to_c (pc := 409) rw_0_409 (x := (1 : Int32)) rfl rfl (s_addk (pc := 410) rw_0_410 (A := i.toInt) (B := 1) rfl rfl (by omega) (v := v9) e10 (s_x0k (pc := 411) rw_0_411 hL (A := v9.toInt) rfl (by omega) (by omega) (v := v11) e12 (to_an (pc := 412) rw_0_412 rfl (to_i (pc := 413) rw_0_413 rfl (to_c (pc := 415) rw_0_415 (x := (2 : Int32)) rfl rfl (s_addk (pc := 416) rw_0_416 (A := i.toInt) (B := 2) rfl rfl (by omega) (v := v13) e14 ?_)))))))))))
  refine s_x0k (pc := 417) rw_0_417 hL (A := v13.toInt) rfl (by omega) (by omega) (v := v15) e16 (s_v (pc := 418) rw_0_418 (dp0 hd (by decide)) (ls0 := [.ref 77, .int v11, .int v15]) rfl (Nat.le_of_ble_eq_true rfl) (Nat.le_of_ble_eq_true rfl) rfl (to_rc rfl rfl rfl (g_o hG18 rfl)) rfl ?_)
  have j_27 := (PLk_f (fun a i z => K_n K19 rfl) hs2.1)
  refine E_182 hX (dp1 hd (by decide)) hG18 j_27 (f := v11) (w := v15) (sg := sg) (fun r28 M34 hG30 F29 p_31 p_32 p_33 => ?_)
  have n_35 : M34.1.2.1 = M22.1.2.1 ∧ M34.1.2.2.1 = M22.1.2.2.1 := by rw [F29.1]; exact ⟨rfl, rfl⟩
  refine to_is (pc := 421) rw_0_421 (ls2 := [.ref mm_ext, .ref 0, .ref 77, .ref 125, .int i, .int r17, .int r28]) rfl rfl (to_go (pc := 423) rw_0_423 ?_)
  have c_37 : M34.2.1 77 7 = (M.2.1 77 7) := (F_n F29 (show ¬ (77 = 77 ∧ 7 = 2) by decide) (K_n K19 rfl))
  have t_38 : (M34.2.1 77 7).toInt = (M.2.1 77 7).toInt := congrArg Int32.toInt c_37
  have c_39 : M34.2.1 77 6 = (M.2.1 77 6) := (F_n F29 (show ¬ (77 = 77 ∧ 6 = 2) by decide) (K_n K19 rfl))
  have t_40 : (M34.2.1 77 6).toInt = (M.2.1 77 6).toInt := congrArg Int32.toInt c_39
  have c_41 : M34.2.1 1 1 = (M.2.1 1 1) := (F_n F29 (show ¬ (1 = 77 ∧ 1 = 2) by decide) (K_n K19 rfl))
  have t_42 : (M34.2.1 1 1).toInt = (M.2.1 1 1).toInt := congrArg Int32.toInt c_41
  have c_43 : M34.2.1 77 1 = (M.2.1 77 1) := (F_n F29 (show ¬ (77 = 77 ∧ 1 = 2) by decide) (K_n K19 rfl))
  have t_44 : (M34.2.1 77 1).toInt = (M.2.1 77 1).toInt := congrArg Int32.toInt c_43
  have c_45 : M34.2.1 0 12 = (M.2.1 0 12) := (F_n F29 (show ¬ (0 = 77 ∧ 12 = 2) by decide) (K_n K19 rfl))
  have t_46 : (M34.2.1 0 12).toInt = (M.2.1 0 12).toInt := congrArg Int32.toInt c_45
  have c_47 : M34.2.1 77 28 = (M.2.1 77 28) := (F_n F29 (show ¬ (77 = 77 ∧ 28 = 2) by decide) (K_n K19 rfl))
  have t_48 : (M34.2.1 77 28).toInt = (M.2.1 77 28).toInt := congrArg Int32.toInt c_47
  have c_49 : M34.2.1 17 4 = (M.2.1 17 4) := (F_n F29 (show ¬ (17 = 77 ∧ 4 = 2) by decide) (K_n K19 rfl))
  have t_50 : (M34.2.1 17 4).toInt = (M.2.1 17 4).toInt := congrArg Int32.toInt c_49
  have c_51 : M34.2.1 77 41 = (M.2.1 77 41) := (F_n F29 (show ¬ (77 = 77 ∧ 41 = 2) by decide) (K_n K19 rfl))
  have t_52 : (M34.2.1 77 41).toInt = (M.2.1 77 41).toInt := congrArg Int32.toInt c_51
  have c_53 : M34.2.1 6 0 = (M.2.1 6 0) := (F_n F29 (show ¬ (6 = 77 ∧ 0 = 2) by decide) (K_n K19 rfl))
  have t_54 : (M34.2.1 6 0).toInt = (M.2.1 6 0).toInt := congrArg Int32.toInt c_53
  have c_55 : M34.2.1 77 29 = (M.2.1 77 29) := (F_n F29 (show ¬ (77 = 77 ∧ 29 = 2) by decide) (K_n K19 rfl))
  have t_56 : (M34.2.1 77 29).toInt = (M.2.1 77 29).toInt := congrArg Int32.toInt c_55
  have j_57 := (PI_f (tg_423 F29) (PI_f (fun a i z => K_n K19 rfl) jPI))
  have j_58 := (NI_f (tg_424 F29) (NI_f (fun a i z => K_n K19 rfl) jNI))
  have j_59 := (QI_f (tg_425 F29) (QI_f (fun a i z => K_n K19 rfl) jQI))
  have j_60 := (PQE_r F29.2.1 (PQE_r K20 jPQE))
  have j_61 := (FA_f (tg_426 F29) (FA_f (fun a i z => K_n K19 rfl) jFA))
  have j_62 := (WC_f (tg_427 F29) (WC_f (fun a i z => K_n K19 rfl) jWC))
  have j_63 := (NJ_f (tg_429 F29) (NJ_f (fun a i z => K_n K19 rfl) jNJ))
  have j_64 := (PS_f (tg_430 F29) (PS_f (fun a i z => K_n K19 rfl) jPS))
  have j_65 := (KQ_f (tg_432 F29) (KQ_f (fun a i z => K_n K19 rfl) jKQ))
  have j_66 := (TP_f (tg_433 F29) (TP_f (fun a i z => K_n K19 rfl) jTP))
  have j_67 := (W9_f (tg_435 F29) (W9_f (fun a i z => K_n K19 rfl) jW9))
  have j_68 := (AN_F F29 tg_499 (AN_K K19 K20 K21 jAN))
  have j_69 := (NE_r F29.2.1 (NE_r K20 jNE))
  have j_70 := (W8_f (tg_436 F29) (W8_f (fun a i z => K_n K19 rfl) jW8))
  exact h M34 (.int r17) (.int r28) ⟨⟨⟨⟨⟨⟨⟨⟨hG30, ⟨j_57, j_58, j_59, j_60⟩, ⟨j_61, j_62, j_63, j_64, j_65⟩, by omega, by omega⟩, j_66, j_67⟩, j_69, by omega⟩, AN_a j_68⟩, by omega⟩, j_70⟩, by omega⟩, j_68⟩ (by omega) (by omega)
set_option maxRecDepth 4000 in
set_option maxHeartbeats 0 in
theorem LW_7 {X : mm_X} {d L : Nat} {M : mm_M} {Q : Option Value → mm_M → Prop} {i : Int32} {u5 u6 : Value} (hX : g_X X) (hW : g_W X) (hW2 : g_W2 X) (hL : (X 0).1 = L) (h3 : L ≤ 3072) (hd : 40 ≤ d) (hi : 0 ≤ i.toInt) (hi2 : i.toInt + 6 ≤ (L : Int)) (H : LI9 M) (h : ∀ (M1 : mm_M) (v5 v6 : Value), LI9 M1 → M1.1.2.1 ≤ M.1.2.1 + 1 → M1.1.2.2.1 ≤ M.1.2.2.1 + 6 → mm_T X d 0 1313 [.ref mm_ext, .ref 0, .ref 77, .ref 125, .int i, v5, v6] [] M1 Q) : mm_T X d 0 426 [.ref mm_ext, .ref 0, .ref 77, .ref 125, .int i, u5, u6] [] M Q := by
  obtain ⟨⟨⟨⟨⟨⟨⟨⟨hG, ⟨jPI, jNI, jQI, jPQE⟩, ⟨jFA, jWC, jNJ, jPS, jKQ⟩, jJ, jE⟩, jTP, jW9⟩, jNE, jCC⟩, -⟩, jOV⟩, jW8⟩, jNN⟩, jAN⟩ := H
  have b_1 := g_b hG (a := 77) (i := 7) (lo := 0) (hi := 500) rfl rfl
  have b_2 := g_b hG (a := 77) (i := 6) (lo := 0) (hi := 500) rfl rfl
  have b_3 := g_b hG (a := 1) (i := 1) (lo := 0) (hi := 500) rfl rfl
  have b_4 := g_b hG (a := 77) (i := 1) (lo := 0) (hi := 500) rfl rfl
  have b_5 := g_b hG (a := 0) (i := 12) (lo := 0) (hi := 30) rfl rfl
  have b_6 := g_b hG (a := 77) (i := 28) (lo := 0) (hi := 30) rfl rfl
  have b_7 := g_b hG (a := 6) (i := 0) (lo := 0) (hi := 150) rfl rfl
  have b_8 := g_b hG (a := 77) (i := 29) (lo := 0) (hi := 150) rfl rfl
  refine to_an (pc := 426) rw_0_426 rfl (to_an (pc := 427) rw_0_427 rfl (to_i (pc := 428) rw_0_428 rfl (to_c (pc := 430) rw_0_430 (x := (1 : Int32)) rfl rfl (s_add (pc := 431) rw_0_431 (A := i.toInt) (B := 1) rfl rfl (by omega) (fun v9 e10 => s_x0 (pc := 432) rw_0_432 hL (A := v9.toInt) rfl (by omega) (by omega) (fun v11 e12 => to_an (pc := 433) rw_0_433 rfl (to_i (pc := 434) rw_0_434 rfl (to_c (pc := 436) rw_0_436 (x := (2 : Int32)) rfl rfl (s_add (pc := 437) rw_0_437 (A := i.toInt) (B := 2) rfl rfl (by omega) (fun v13 e14 => s_x0 (pc := 438) rw_0_438 hL (A := v13.toInt) rfl (by omega) (by omega) (fun v15 e16 => s_v (pc := 439) rw_0_439 (dp0 hd (by decide)) (ls0 := [.ref 0, .int v11, .int v15]) rfl (Nat.le_of_ble_eq_true rfl) (Nat.le_of_ble_eq_true rfl) rfl (to_rc rfl rfl rfl (g_o hG rfl)) rfl ?_)))))))))))
  obtain ⟨pz17, pzz17, qz17, qzz17, hpz17, hpzz17, hqz17, hqzz17, hpqz17⟩ := id jPQE
  obtain ⟨sg, NN, nz, ca, hs1, hs2, hn1, hn2, hn3, hn4, hn5⟩ := AN_u jAN hpqz17
  refine E_116 hX (dp1 hd (by decide)) hG hpz17 hpzz17 hqz17 hqzz17 hpqz17 hs1.1 hW2 (f := v11) (v := v15) (sg := sg) (p := pz17) (pz := pzz17) (q := qz17) (qz := qzz17) (fun r18 M22 hG20 F19 p_21 => ?_)
  have n_23 : M22.1.2.1 = M.1.2.1 ∧ M22.1.2.2.1 = M.1.2.2.1 := by rw [F19.1]; exact ⟨rfl, rfl⟩
  refine s_pop2 (pc := 442) rw_0_442 (to_an (pc := 443) rw_0_443 rfl (to_an (pc := 444) rw_0_444 rfl (to_i (pc := 445) rw_0_445 rfl (to_c (pc := 447) rw_0_447 (x := (1 : Int32)) rfl rfl (s_addk (pc := 448) rw_0_448 (A := i.toInt) (B := 1) rfl rfl (by omega) (v := v9) e10 (s_x0k (pc := 449) rw_0_449 hL (A := v9.toInt) rfl (by omega) (by omega) (v := v11) e12 (to_an (pc := 450) rw_0_450 rfl (to_i (pc := 451) rw_0_451 rfl (to_c (pc := 453) rw_0_453 (x := (2 : Int32)) rfl rfl (s_addk (pc := 454) rw_0_454 (A := i.toInt) (B := 2) rfl rfl (by omega) (v := v13) e14 (s_x0k (pc := 455) rw_0_455 hL (A := v13.toInt) rfl (by omega) (by omega) (v := v15) e16 ?_)))))))))))
  refine s_v (pc := 456) rw_0_456 (dp0 hd (by decide)) (ls0 := [.ref 77, .int v11, .int v15]) rfl (Nat.le_of_ble_eq_true rfl) (Nat.le_of_ble_eq_true rfl) rfl (to_rc rfl rfl rfl (g_o hG20 rfl)) rfl ?_
  have j_29 := (FA_f (tg_218 F19) jFA)
  have j_30 := (PLk_f (tg_101 F19) hs2.1)
  have j_31 := (W8_f (tg_437 F19) jW8)
  refine E_185 hX (dp1 hd (by decide)) hG20 j_29 j_30 j_31 (f := v11) (v := v15) (sg := sg) (fun r32 M36 hG34 F33 p_35 => ?_)
  have n_37 : M36.1.2.1 = M22.1.2.1 ∧ M36.1.2.2.1 = M22.1.2.2.1 := by rw [F33.1]; exact ⟨rfl, rfl⟩
  have z_39 := x_eq_1.mpr (p_21.trans p_35.symm)
  refine s_pop2 (pc := 459) rw_0_459 (to_go (pc := 460) rw_0_460 ?_)
  have c_40 : M36.2.1 77 7 = (M.2.1 77 7) := (F_n F33 (show ¬ (77 = 77 ∧ 7 = 2) by decide) (F_n F19 (show ¬ (77 < 0) by decide) rfl))
  have t_41 : (M36.2.1 77 7).toInt = (M.2.1 77 7).toInt := congrArg Int32.toInt c_40
  have c_42 : M36.2.1 77 6 = (M.2.1 77 6) := (F_n F33 (show ¬ (77 = 77 ∧ 6 = 2) by decide) (F_n F19 (show ¬ (77 < 0) by decide) rfl))
  have t_43 : (M36.2.1 77 6).toInt = (M.2.1 77 6).toInt := congrArg Int32.toInt c_42
  have c_44 : M36.2.1 1 1 = (M.2.1 1 1) := (F_n F33 (show ¬ (1 = 77 ∧ 1 = 2) by decide) (F_n F19 (show ¬ (1 < 0) by decide) rfl))
  have t_45 : (M36.2.1 1 1).toInt = (M.2.1 1 1).toInt := congrArg Int32.toInt c_44
  have c_46 : M36.2.1 77 1 = (M.2.1 77 1) := (F_n F33 (show ¬ (77 = 77 ∧ 1 = 2) by decide) (F_n F19 (show ¬ (77 < 0) by decide) rfl))
  have t_47 : (M36.2.1 77 1).toInt = (M.2.1 77 1).toInt := congrArg Int32.toInt c_46
  have c_48 : M36.2.1 0 12 = (M.2.1 0 12) := (F_n F33 (show ¬ (0 = 77 ∧ 12 = 2) by decide) (F_n F19 (show ¬ (0 < 0) by decide) rfl))
  have t_49 : (M36.2.1 0 12).toInt = (M.2.1 0 12).toInt := congrArg Int32.toInt c_48
  have c_50 : M36.2.1 77 28 = (M.2.1 77 28) := (F_n F33 (show ¬ (77 = 77 ∧ 28 = 2) by decide) (F_n F19 (show ¬ (77 < 0) by decide) rfl))
  have t_51 : (M36.2.1 77 28).toInt = (M.2.1 77 28).toInt := congrArg Int32.toInt c_50
  have c_52 : M36.2.1 17 4 = (M.2.1 17 4) := (F_n F33 (show ¬ (17 = 77 ∧ 4 = 2) by decide) (F_n F19 (show ¬ (17 < 0) by decide) rfl))
  have t_53 : (M36.2.1 17 4).toInt = (M.2.1 17 4).toInt := congrArg Int32.toInt c_52
  have c_54 : M36.2.1 77 41 = (M.2.1 77 41) := (F_n F33 (show ¬ (77 = 77 ∧ 41 = 2) by decide) (F_n F19 (show ¬ (77 < 0) by decide) rfl))
  have t_55 : (M36.2.1 77 41).toInt = (M.2.1 77 41).toInt := congrArg Int32.toInt c_54
  have c_56 : M36.2.1 6 0 = (M.2.1 6 0) := (F_n F33 (show ¬ (6 = 77 ∧ 0 = 2) by decide) (F_n F19 (show ¬ (6 < 0) by decide) rfl))
  have t_57 : (M36.2.1 6 0).toInt = (M.2.1 6 0).toInt := congrArg Int32.toInt c_56
  have c_58 : M36.2.1 77 29 = (M.2.1 77 29) := (F_n F33 (show ¬ (77 = 77 ∧ 29 = 2) by decide) (F_n F19 (show ¬ (77 < 0) by decide) rfl))
  have t_59 : (M36.2.1 77 29).toInt = (M.2.1 77 29).toInt := congrArg Int32.toInt c_58
  have j_60 := (PI_f (tg_423 F33) (PI_f (tg_99 F19) jPI))
  have j_61 := (NI_f (tg_424 F33) (NI_f (tg_98 F19) jNI))
  have j_62 := (QI_f (tg_425 F33) (QI_f (tg_100 F19) jQI))
  have j_63 := (PQE_r F33.2.1 (PQE_r F19.2.1 jPQE))
  have j_64 := (FA_f (tg_426 F33) j_29)
  have j_65 := (WC_f (tg_427 F33) (WC_f (tg_428 F19) jWC))
  have j_66 := (NJ_f (tg_429 F33) (NJ_f (tg_102 F19) jNJ))
  have j_67 := (PS_f (tg_430 F33) (PS_f (tg_431 F19) jPS))
  have j_68 := (KQ_f (tg_432 F33) (KQ_f (tg_343 F19) jKQ))
  have j_69 := (TP_f (tg_433 F33) (TP_f (tg_434 F19) jTP))
  have j_70 := (W9_f (tg_435 F33) (W9_f (tg_46 F19) jW9))
  have j_71 := (AN_F F33 tg_499 (AN_F F19 tg_500 jAN))
  have j_72 := (NE_r F33.2.1 (NE_r F19.2.1 jNE))
  have j_73 := (W8_f (tg_436 F33) j_31)
  exact h M36 (u5) (u6) ⟨⟨⟨⟨⟨⟨⟨⟨hG34, ⟨j_60, j_61, j_62, j_63⟩, ⟨j_64, j_65, j_66, j_67, j_68⟩, by omega, by omega⟩, j_69, j_70⟩, j_72, by omega⟩, AN_a j_71⟩, by omega⟩, j_73⟩, by omega⟩, j_71⟩ (by omega) (by omega)
set_option maxRecDepth 4000 in
set_option maxHeartbeats 0 in
theorem LW_8 {X : mm_X} {d L : Nat} {M : mm_M} {Q : Option Value → mm_M → Prop} {i : Int32} {u5 u6 : Value} (hX : g_X X) (hW : g_W X) (hW2 : g_W2 X) (hL : (X 0).1 = L) (h3 : L ≤ 3072) (hd : 40 ≤ d) (hi : 0 ≤ i.toInt) (hi2 : i.toInt + 6 ≤ (L : Int)) (H : LI9 M) (h : ∀ (M1 : mm_M) (v5 v6 : Value), LI9 M1 → M1.1.2.1 ≤ M.1.2.1 + 1 → M1.1.2.2.1 ≤ M.1.2.2.1 + 6 → mm_T X d 0 1313 [.ref mm_ext, .ref 0, .ref 77, .ref 125, .int i, v5, v6] [] M1 Q) : mm_T X d 0 463 [.ref mm_ext, .ref 0, .ref 77, .ref 125, .int i, u5, u6] [] M Q := by
  obtain ⟨⟨⟨⟨⟨⟨⟨⟨hG, ⟨jPI, jNI, jQI, jPQE⟩, ⟨jFA, jWC, jNJ, jPS, jKQ⟩, jJ, jE⟩, jTP, jW9⟩, jNE, jCC⟩, -⟩, jOV⟩, jW8⟩, jNN⟩, jAN⟩ := H
  have b_1 := g_b hG (a := 77) (i := 7) (lo := 0) (hi := 500) rfl rfl
  have b_2 := g_b hG (a := 77) (i := 6) (lo := 0) (hi := 500) rfl rfl
  have b_3 := g_b hG (a := 1) (i := 1) (lo := 0) (hi := 500) rfl rfl
  have b_4 := g_b hG (a := 77) (i := 1) (lo := 0) (hi := 500) rfl rfl
  have b_5 := g_b hG (a := 0) (i := 12) (lo := 0) (hi := 30) rfl rfl
  have b_6 := g_b hG (a := 77) (i := 28) (lo := 0) (hi := 30) rfl rfl
  have b_7 := g_b hG (a := 6) (i := 0) (lo := 0) (hi := 150) rfl rfl
  have b_8 := g_b hG (a := 77) (i := 29) (lo := 0) (hi := 150) rfl rfl
  refine to_an (pc := 463) rw_0_463 rfl (to_an (pc := 464) rw_0_464 rfl (to_i (pc := 465) rw_0_465 rfl (to_c (pc := 467) rw_0_467 (x := (1 : Int32)) rfl rfl (s_add (pc := 468) rw_0_468 (A := i.toInt) (B := 1) rfl rfl (by omega) (fun v9 e10 => s_x0 (pc := 469) rw_0_469 hL (A := v9.toInt) rfl (by omega) (by omega) (fun v11 e12 => to_an (pc := 470) rw_0_470 rfl (to_i (pc := 471) rw_0_471 rfl (to_c (pc := 473) rw_0_473 (x := (2 : Int32)) rfl rfl (s_add (pc := 474) rw_0_474 (A := i.toInt) (B := 2) rfl rfl (by omega) (fun v13 e14 => s_x0 (pc := 475) rw_0_475 hL (A := v13.toInt) rfl (by omega) (by omega) (fun v15 e16 => s_v (pc := 476) rw_0_476 (dp0 hd (by decide)) (ls0 := [.ref 0, .int v11, .int v15]) rfl (Nat.le_of_ble_eq_true rfl) (Nat.le_of_ble_eq_true rfl) rfl (to_rc rfl rfl rfl (g_o hG rfl)) rfl ?_)))))))))))
  obtain ⟨pz17, pzz17, qz17, qzz17, hpz17, hpzz17, hqz17, hqzz17, hpqz17⟩ := id jPQE
  refine C_117 hX (dp1 hd (by decide)) hG hpz17 hpzz17 hqz17 hqzz17 hpqz17 jNI jPI jQI (n := v11) (w := v15) (p := pz17) (pz := pzz17) (q := qz17) (qz := qzz17) (fun r18 M24 hG20 F19 p_21 p_22 p_23 => ?_)
  have n_25 : M24.1.2.1 = M.1.2.1 ∧ M24.1.2.2.1 = M.1.2.2.1 := by rw [F19.1]; exact ⟨rfl, rfl⟩
  refine s_pop2 (pc := 479) rw_0_479 (to_an (pc := 480) rw_0_480 rfl (to_an (pc := 481) rw_0_481 rfl (to_i (pc := 482) rw_0_482 rfl (to_c (pc := 484) rw_0_484 (x := (1 : Int32)) rfl rfl (s_addk (pc := 485) rw_0_485 (A := i.toInt) (B := 1) rfl rfl (by omega) (v := v9) e10 (s_x0k (pc := 486) rw_0_486 hL (A := v9.toInt) rfl (by omega) (by omega) (v := v11) e12 (to_an (pc := 487) rw_0_487 rfl (to_i (pc := 488) rw_0_488 rfl (to_c (pc := 490) rw_0_490 (x := (2 : Int32)) rfl rfl (s_addk (pc := 491) rw_0_491 (A := i.toInt) (B := 2) rfl rfl (by omega) (v := v13) e14 (s_x0k (pc := 492) rw_0_492 hL (A := v13.toInt) rfl (by omega) (by omega) (v := v15) e16 ?_)))))))))))
  refine s_v (pc := 493) rw_0_493 (dp0 hd (by decide)) (ls0 := [.ref 77, .int v11, .int v15]) rfl (Nat.le_of_ble_eq_true rfl) (Nat.le_of_ble_eq_true rfl) rfl (to_rc rfl rfl rfl (g_o hG20 rfl)) rfl ?_
  have j_31 := (NJ_f (tg_438 F19) jNJ)
  refine C_192 hX (dp1 hd (by decide)) hG20 j_31 (n := v11) (w := v15) (fun r32 M35 hG34 F33 => ?_)
  have n_36 : M35.1.2.1 = M24.1.2.1 ∧ M35.1.2.2.1 = M24.1.2.2.1 := by rw [F33.1]; exact ⟨rfl, rfl⟩
  refine s_pop2 (pc := 496) rw_0_496 (to_go (pc := 497) rw_0_497 ?_)
  have c_38 : M35.2.1 77 7 = (M.2.1 77 7) := (F_n F33 (show ¬ (77 = 77 ∧ 7 = 2 ∨ 94 ≤ 77 ∧ 77 ≤ 98) by decide) (F_n F19 (show ¬ (11 ≤ 77 ∧ 77 ≤ 16 ∨ 18 ≤ 77 ∧ 77 ≤ 48 ∨ 67 ≤ 77 ∧ 77 ≤ 76) by decide) rfl))
  have t_39 : (M35.2.1 77 7).toInt = (M.2.1 77 7).toInt := congrArg Int32.toInt c_38
  have c_40 : M35.2.1 77 6 = (M.2.1 77 6) := (F_n F33 (show ¬ (77 = 77 ∧ 6 = 2 ∨ 94 ≤ 77 ∧ 77 ≤ 98) by decide) (F_n F19 (show ¬ (11 ≤ 77 ∧ 77 ≤ 16 ∨ 18 ≤ 77 ∧ 77 ≤ 48 ∨ 67 ≤ 77 ∧ 77 ≤ 76) by decide) rfl))
  have t_41 : (M35.2.1 77 6).toInt = (M.2.1 77 6).toInt := congrArg Int32.toInt c_40
  have c_42 : M35.2.1 1 1 = (M.2.1 1 1) := (F_n F33 (show ¬ (1 = 77 ∧ 1 = 2 ∨ 94 ≤ 1 ∧ 1 ≤ 98) by decide) (F_n F19 (show ¬ (11 ≤ 1 ∧ 1 ≤ 16 ∨ 18 ≤ 1 ∧ 1 ≤ 48 ∨ 67 ≤ 1 ∧ 1 ≤ 76) by decide) rfl))
  have t_43 : (M35.2.1 1 1).toInt = (M.2.1 1 1).toInt := congrArg Int32.toInt c_42
  have c_44 : M35.2.1 77 1 = (M.2.1 77 1) := (F_n F33 (show ¬ (77 = 77 ∧ 1 = 2 ∨ 94 ≤ 77 ∧ 77 ≤ 98) by decide) (F_n F19 (show ¬ (11 ≤ 77 ∧ 77 ≤ 16 ∨ 18 ≤ 77 ∧ 77 ≤ 48 ∨ 67 ≤ 77 ∧ 77 ≤ 76) by decide) rfl))
  have t_45 : (M35.2.1 77 1).toInt = (M.2.1 77 1).toInt := congrArg Int32.toInt c_44
  have c_46 : M35.2.1 0 12 = (M.2.1 0 12) := (F_n F33 (show ¬ (0 = 77 ∧ 12 = 2 ∨ 94 ≤ 0 ∧ 0 ≤ 98) by decide) (F_n F19 (show ¬ (11 ≤ 0 ∧ 0 ≤ 16 ∨ 18 ≤ 0 ∧ 0 ≤ 48 ∨ 67 ≤ 0 ∧ 0 ≤ 76) by decide) rfl))
  have t_47 : (M35.2.1 0 12).toInt = (M.2.1 0 12).toInt := congrArg Int32.toInt c_46
  have c_48 : M35.2.1 77 28 = (M.2.1 77 28) := (F_n F33 (show ¬ (77 = 77 ∧ 28 = 2 ∨ 94 ≤ 77 ∧ 77 ≤ 98) by decide) (F_n F19 (show ¬ (11 ≤ 77 ∧ 77 ≤ 16 ∨ 18 ≤ 77 ∧ 77 ≤ 48 ∨ 67 ≤ 77 ∧ 77 ≤ 76) by decide) rfl))
  have t_49 : (M35.2.1 77 28).toInt = (M.2.1 77 28).toInt := congrArg Int32.toInt c_48
  have c_50 : M35.2.1 17 4 = (M.2.1 17 4) := (F_n F33 (show ¬ (17 = 77 ∧ 4 = 2 ∨ 94 ≤ 17 ∧ 17 ≤ 98) by decide) (F_n F19 (show ¬ (11 ≤ 17 ∧ 17 ≤ 16 ∨ 18 ≤ 17 ∧ 17 ≤ 48 ∨ 67 ≤ 17 ∧ 17 ≤ 76) by decide) rfl))
  have t_51 : (M35.2.1 17 4).toInt = (M.2.1 17 4).toInt := congrArg Int32.toInt c_50
  have c_52 : M35.2.1 77 41 = (M.2.1 77 41) := (F_n F33 (show ¬ (77 = 77 ∧ 41 = 2 ∨ 94 ≤ 77 ∧ 77 ≤ 98) by decide) (F_n F19 (show ¬ (11 ≤ 77 ∧ 77 ≤ 16 ∨ 18 ≤ 77 ∧ 77 ≤ 48 ∨ 67 ≤ 77 ∧ 77 ≤ 76) by decide) rfl))
  have t_53 : (M35.2.1 77 41).toInt = (M.2.1 77 41).toInt := congrArg Int32.toInt c_52
  have c_54 : M35.2.1 6 0 = (M.2.1 6 0) := (F_n F33 (show ¬ (6 = 77 ∧ 0 = 2 ∨ 94 ≤ 6 ∧ 6 ≤ 98) by decide) (F_n F19 (show ¬ (11 ≤ 6 ∧ 6 ≤ 16 ∨ 18 ≤ 6 ∧ 6 ≤ 48 ∨ 67 ≤ 6 ∧ 6 ≤ 76) by decide) rfl))
  have t_55 : (M35.2.1 6 0).toInt = (M.2.1 6 0).toInt := congrArg Int32.toInt c_54
  have c_56 : M35.2.1 77 29 = (M.2.1 77 29) := (F_n F33 (show ¬ (77 = 77 ∧ 29 = 2 ∨ 94 ≤ 77 ∧ 77 ≤ 98) by decide) (F_n F19 (show ¬ (11 ≤ 77 ∧ 77 ≤ 16 ∨ 18 ≤ 77 ∧ 77 ≤ 48 ∨ 67 ≤ 77 ∧ 77 ≤ 76) by decide) rfl))
  have t_57 : (M35.2.1 77 29).toInt = (M.2.1 77 29).toInt := congrArg Int32.toInt c_56
  have j_58 := (PI_f (tg_439 F33) p_21)
  have j_59 := (NI_f (tg_440 F33) p_22)
  have j_60 := (QI_f (tg_441 F33) p_23)
  have j_61 := (PQE_r F33.2.1 (PQE_r F19.2.1 jPQE))
  have j_62 := (FA_f (tg_442 F33) (FA_f (tg_443 F19) jFA))
  have j_63 := (WC_f (tg_444 F33) (WC_f (tg_445 F19) jWC))
  have j_64 := (NJ_f (tg_446 F33) j_31)
  have j_65 := (PS_f (tg_447 F33) (PS_f (tg_448 F19) jPS))
  have j_66 := (KQ_f (tg_449 F33) (KQ_f (tg_450 F19) jKQ))
  have j_67 := (TP_f (tg_451 F33) (TP_f (tg_452 F19) jTP))
  have j_68 := (W9_f (tg_453 F33) (W9_f (tg_454 F19) jW9))
  have j_69 := (AN_F F33 tg_501 (AN_F F19 tg_502 jAN))
  have j_70 := (NE_r F33.2.1 (NE_r F19.2.1 jNE))
  have j_71 := (W8_f (tg_455 F33) (W8_f (tg_456 F19) jW8))
  exact h M35 (u5) (u6) ⟨⟨⟨⟨⟨⟨⟨⟨hG34, ⟨j_58, j_59, j_60, j_61⟩, ⟨j_62, j_63, j_64, j_65, j_66⟩, by omega, by omega⟩, j_67, j_68⟩, j_70, by omega⟩, AN_a j_69⟩, by omega⟩, j_71⟩, by omega⟩, j_69⟩ (by omega) (by omega)
set_option maxRecDepth 4000 in
set_option maxHeartbeats 0 in
theorem LW_9 {X : mm_X} {d L : Nat} {M : mm_M} {Q : Option Value → mm_M → Prop} {i : Int32} {u5 u6 : Value} (hX : g_X X) (hW : g_W X) (hW2 : g_W2 X) (hL : (X 0).1 = L) (h3 : L ≤ 3072) (hd : 40 ≤ d) (hi : 0 ≤ i.toInt) (hi2 : i.toInt + 6 ≤ (L : Int)) (H : LI9 M) (h : ∀ (M1 : mm_M) (v5 v6 : Value), LI9 M1 → M1.1.2.1 ≤ M.1.2.1 + 1 → M1.1.2.2.1 ≤ M.1.2.2.1 + 6 → mm_T X d 0 1313 [.ref mm_ext, .ref 0, .ref 77, .ref 125, .int i, v5, v6] [] M1 Q) : mm_T X d 0 500 [.ref mm_ext, .ref 0, .ref 77, .ref 125, .int i, u5, u6] [] M Q := by
  obtain ⟨⟨⟨⟨⟨⟨⟨⟨hG, ⟨jPI, jNI, jQI, jPQE⟩, ⟨jFA, jWC, jNJ, jPS, jKQ⟩, jJ, jE⟩, jTP, jW9⟩, jNE, jCC⟩, -⟩, jOV⟩, jW8⟩, jNN⟩, jAN⟩ := H
  have b_1 := g_b hG (a := 77) (i := 7) (lo := 0) (hi := 500) rfl rfl
  have b_2 := g_b hG (a := 77) (i := 6) (lo := 0) (hi := 500) rfl rfl
  have b_3 := g_b hG (a := 1) (i := 1) (lo := 0) (hi := 500) rfl rfl
  have b_4 := g_b hG (a := 77) (i := 1) (lo := 0) (hi := 500) rfl rfl
  have b_5 := g_b hG (a := 0) (i := 12) (lo := 0) (hi := 30) rfl rfl
  have b_6 := g_b hG (a := 77) (i := 28) (lo := 0) (hi := 30) rfl rfl
  have b_7 := g_b hG (a := 6) (i := 0) (lo := 0) (hi := 150) rfl rfl
  have b_8 := g_b hG (a := 77) (i := 29) (lo := 0) (hi := 150) rfl rfl
  refine to_an (pc := 500) rw_0_500 rfl (s_v (pc := 501) rw_0_501 (dp0 hd (by decide)) (ls0 := [.ref 0]) rfl (Nat.le_of_ble_eq_true rfl) (Nat.le_of_ble_eq_true rfl) rfl (to_rc rfl rfl rfl (g_o hG rfl)) rfl ?_)
  obtain ⟨pz9, pzz9, qz9, qzz9, hpz9, hpzz9, hqz9, hqzz9, hpqz9⟩ := id jPQE
  refine C_118 hX (dp1 hd (by decide)) hG hpz9 hpzz9 hqz9 hqzz9 hpqz9 jPI jNI jQI (p := pz9) (pz := pzz9) (q := qz9) (qz := qzz9) (fun r10 M18 hG12 F11 p_13 p_14 p_15 p_16 p_17 => ?_)
  have n_19 : M18.1.2.1 = M.1.2.1 ∧ M18.1.2.2.1 = M.1.2.2.1 := by rw [F11.1]; exact ⟨rfl, rfl⟩
  have b_21 := g_b hG12 (a := 0) (i := 12) (lo := 0) (hi := 30) rfl rfl
  have z_22 := AN_C F11 (fun a i z => show ¬ (a = 0 ∧ i = 12 ∨ 18 ≤ a ∧ a ≤ 27) by omega) (by omega) jAN
  refine to_popi (pc := 504) rw_0_504 (to_an (pc := 505) rw_0_505 rfl (s_v (pc := 506) rw_0_506 (dp0 hd (by decide)) (ls0 := [.ref 77]) rfl (Nat.le_of_ble_eq_true rfl) (Nat.le_of_ble_eq_true rfl) rfl (to_rc rfl rfl rfl (g_o hG12 rfl)) rfl ?_))
  have c_23 : M18.2.1 77 28 = (M.2.1 77 28) := (F_n F11 (show ¬ (77 = 0 ∧ 28 = 12 ∨ 18 ≤ 77 ∧ 77 ≤ 27) by decide) rfl)
  have t_24 : (M18.2.1 77 28).toInt = (M.2.1 77 28).toInt := congrArg Int32.toInt c_23
  have j_25 := (PS_f (tg_457 F11) jPS)
  refine C_193 hX (dp1 hd (by decide)) hG12 j_25  (fun r26 M32 hG28 F27 p_29 p_30 p_31 => ?_)
  have n_33 : M32.1.2.1 = M18.1.2.1 ∧ M32.1.2.2.1 = M18.1.2.2.1 := by rw [F27.1]; exact ⟨rfl, rfl⟩
  have b_35 := g_b hG28 (a := 77) (i := 28) (lo := 0) (hi := 30) rfl rfl
  refine to_popi (pc := 509) rw_0_509 (to_go (pc := 510) rw_0_510 ?_)
  have c_36 : M32.2.1 77 7 = (M.2.1 77 7) := (F_n F27 (show ¬ (77 = 77 ∧ (7 = 2 ∨ 7 = 28) ∨ 77 = 99 ∨ 77 = 100) by decide) (F_n F11 (show ¬ (77 = 0 ∧ 7 = 12 ∨ 18 ≤ 77 ∧ 77 ≤ 27) by decide) rfl))
  have t_37 : (M32.2.1 77 7).toInt = (M.2.1 77 7).toInt := congrArg Int32.toInt c_36
  have c_38 : M32.2.1 77 6 = (M.2.1 77 6) := (F_n F27 (show ¬ (77 = 77 ∧ (6 = 2 ∨ 6 = 28) ∨ 77 = 99 ∨ 77 = 100) by decide) (F_n F11 (show ¬ (77 = 0 ∧ 6 = 12 ∨ 18 ≤ 77 ∧ 77 ≤ 27) by decide) rfl))
  have t_39 : (M32.2.1 77 6).toInt = (M.2.1 77 6).toInt := congrArg Int32.toInt c_38
  have c_40 : M32.2.1 1 1 = (M.2.1 1 1) := (F_n F27 (show ¬ (1 = 77 ∧ (1 = 2 ∨ 1 = 28) ∨ 1 = 99 ∨ 1 = 100) by decide) (F_n F11 (show ¬ (1 = 0 ∧ 1 = 12 ∨ 18 ≤ 1 ∧ 1 ≤ 27) by decide) rfl))
  have t_41 : (M32.2.1 1 1).toInt = (M.2.1 1 1).toInt := congrArg Int32.toInt c_40
  have c_42 : M32.2.1 77 1 = (M.2.1 77 1) := (F_n F27 (show ¬ (77 = 77 ∧ (1 = 2 ∨ 1 = 28) ∨ 77 = 99 ∨ 77 = 100) by decide) (F_n F11 (show ¬ (77 = 0 ∧ 1 = 12 ∨ 18 ≤ 77 ∧ 77 ≤ 27) by decide) rfl))
  have t_43 : (M32.2.1 77 1).toInt = (M.2.1 77 1).toInt := congrArg Int32.toInt c_42
  have c_44 : M32.2.1 0 12 = (M18.2.1 0 12) := (F_n F27 (show ¬ (0 = 77 ∧ (12 = 2 ∨ 12 = 28) ∨ 0 = 99 ∨ 0 = 100) by decide) rfl)
  have t_45 : (M32.2.1 0 12).toInt = (M18.2.1 0 12).toInt := congrArg Int32.toInt c_44
  have c_46 : M32.2.1 17 4 = (M.2.1 17 4) := (F_n F27 (show ¬ (17 = 77 ∧ (4 = 2 ∨ 4 = 28) ∨ 17 = 99 ∨ 17 = 100) by decide) (F_n F11 (show ¬ (17 = 0 ∧ 4 = 12 ∨ 18 ≤ 17 ∧ 17 ≤ 27) by decide) rfl))
  have t_47 : (M32.2.1 17 4).toInt = (M.2.1 17 4).toInt := congrArg Int32.toInt c_46
  have c_48 : M32.2.1 77 41 = (M.2.1 77 41) := (F_n F27 (show ¬ (77 = 77 ∧ (41 = 2 ∨ 41 = 28) ∨ 77 = 99 ∨ 77 = 100) by decide) (F_n F11 (show ¬ (77 = 0 ∧ 41 = 12 ∨ 18 ≤ 77 ∧ 77 ≤ 27) by decide) rfl))
  have t_49 : (M32.2.1 77 41).toInt = (M.2.1 77 41).toInt := congrArg Int32.toInt c_48
  have c_50 : M32.2.1 6 0 = (M.2.1 6 0) := (F_n F27 (show ¬ (6 = 77 ∧ (0 = 2 ∨ 0 = 28) ∨ 6 = 99 ∨ 6 = 100) by decide) (F_n F11 (show ¬ (6 = 0 ∧ 0 = 12 ∨ 18 ≤ 6 ∧ 6 ≤ 27) by decide) rfl))
  have t_51 : (M32.2.1 6 0).toInt = (M.2.1 6 0).toInt := congrArg Int32.toInt c_50
  have c_52 : M32.2.1 77 29 = (M.2.1 77 29) := (F_n F27 (show ¬ (77 = 77 ∧ (29 = 2 ∨ 29 = 28) ∨ 77 = 99 ∨ 77 = 100) by decide) (F_n F11 (show ¬ (77 = 0 ∧ 29 = 12 ∨ 18 ≤ 77 ∧ 77 ≤ 27) by decide) rfl))
  have t_53 : (M32.2.1 77 29).toInt = (M.2.1 77 29).toInt := congrArg Int32.toInt c_52
  have j_54 := (PI_f (tg_458 F27) p_15)
  have j_55 := (NI_f (tg_459 F27) p_16)
  have j_56 := (QI_f (tg_460 F27) p_17)
  have j_57 := (PQE_r F27.2.1 (PQE_r F11.2.1 jPQE))
  have j_58 := (FA_f (tg_461 F27) (FA_f (tg_462 F11) jFA))
  have j_59 := (WC_f (tg_463 F27) (WC_f (tg_464 F11) jWC))
  have j_60 := (NJ_f (tg_465 F27) (NJ_f (tg_466 F11) jNJ))
  have j_61 := (KQ_f (tg_467 F27) (KQ_f (tg_468 F11) jKQ))
  have j_62 := (TP_f (tg_469 F27) (TP_f (tg_470 F11) jTP))
  have j_63 := (W9_f (tg_471 F27) (W9_f (tg_472 F11) jW9))
  have j_64 := (AN_F F27 tg_503 z_22)
  have j_65 := (NE_r F27.2.1 (NE_r F11.2.1 jNE))
  have j_66 := (W8_f (tg_473 F27) (W8_f (tg_474 F11) jW8))
  exact h M32 (u5) (u6) ⟨⟨⟨⟨⟨⟨⟨⟨hG28, ⟨j_54, j_55, j_56, j_57⟩, ⟨j_58, j_59, j_60, p_31, j_61⟩, by omega, by omega⟩, j_62, j_63⟩, j_65, by omega⟩, AN_a j_64⟩, by omega⟩, j_66⟩, by omega⟩, j_64⟩ (by omega) (by omega)
set_option maxRecDepth 4000 in
set_option maxHeartbeats 0 in
theorem LW_10 {X : mm_X} {d L : Nat} {M : mm_M} {Q : Option Value → mm_M → Prop} {i : Int32} {u5 u6 : Value} (hX : g_X X) (hW : g_W X) (hW2 : g_W2 X) (hL : (X 0).1 = L) (h3 : L ≤ 3072) (hd : 40 ≤ d) (hi : 0 ≤ i.toInt) (hi2 : i.toInt + 6 ≤ (L : Int)) (H : LI9 M) (h : ∀ (M1 : mm_M) (v5 v6 : Value), LI9 M1 → M1.1.2.1 ≤ M.1.2.1 + 1 → M1.1.2.2.1 ≤ M.1.2.2.1 + 6 → mm_T X d 0 1313 [.ref mm_ext, .ref 0, .ref 77, .ref 125, .int i, v5, v6] [] M1 Q) : mm_T X d 0 513 [.ref mm_ext, .ref 0, .ref 77, .ref 125, .int i, u5, u6] [] M Q := by
  obtain ⟨⟨⟨⟨⟨⟨⟨⟨hG, ⟨jPI, jNI, jQI, jPQE⟩, ⟨jFA, jWC, jNJ, jPS, jKQ⟩, jJ, jE⟩, jTP, jW9⟩, jNE, jCC⟩, -⟩, jOV⟩, jW8⟩, jNN⟩, jAN⟩ := H
  have b_1 := g_b hG (a := 77) (i := 7) (lo := 0) (hi := 500) rfl rfl
  have b_2 := g_b hG (a := 77) (i := 6) (lo := 0) (hi := 500) rfl rfl
  have b_3 := g_b hG (a := 1) (i := 1) (lo := 0) (hi := 500) rfl rfl
  have b_4 := g_b hG (a := 77) (i := 1) (lo := 0) (hi := 500) rfl rfl
  have b_5 := g_b hG (a := 0) (i := 12) (lo := 0) (hi := 30) rfl rfl
  have b_6 := g_b hG (a := 77) (i := 28) (lo := 0) (hi := 30) rfl rfl
  have b_7 := g_b hG (a := 6) (i := 0) (lo := 0) (hi := 150) rfl rfl
  have b_8 := g_b hG (a := 77) (i := 29) (lo := 0) (hi := 150) rfl rfl
  refine to_an (pc := 513) rw_0_513 rfl (to_an (pc := 514) rw_0_514 rfl (to_i (pc := 515) rw_0_515 rfl (to_c (pc := 517) rw_0_517 (x := (1 : Int32)) rfl rfl (s_add (pc := 518) rw_0_518 (A := i.toInt) (B := 1) rfl rfl (by omega) (fun v9 e10 => s_x0 (pc := 519) rw_0_519 hL (A := v9.toInt) rfl (by omega) (by omega) (fun v11 e12 => to_an (pc := 520) rw_0_520 rfl (to_i (pc := 521) rw_0_521 rfl (to_c (pc := 523) rw_0_523 (x := (2 : Int32)) rfl rfl (s_add (pc := 524) rw_0_524 (A := i.toInt) (B := 2) rfl rfl (by omega) (fun v13 e14 => s_x0 (pc := 525) rw_0_525 hL (A := v13.toInt) rfl (by omega) (by omega) (fun v15 e16 => to_an (pc := 526) rw_0_526 rfl ?_)))))))))))
  refine to_i (pc := 527) rw_0_527 rfl (to_c (pc := 529) rw_0_529 (x := (3 : Int32)) rfl rfl (s_add (pc := 530) rw_0_530 (A := i.toInt) (B := 3) rfl rfl (by omega) (fun v17 e18 => s_x0 (pc := 531) rw_0_531 hL (A := v17.toInt) rfl (by omega) (by omega) (fun v19 e20 => s_v (pc := 532) rw_0_532 (dp0 hd (by decide)) (ls0 := [.ref 0, .int v11, .int v15, .int v19]) rfl (Nat.le_of_ble_eq_true rfl) (Nat.le_of_ble_eq_true rfl) rfl (to_rc rfl rfl rfl (g_o hG rfl)) rfl ?_))))
  obtain ⟨pz21, pzz21, qz21, qzz21, hpz21, hpzz21, hqz21, hqzz21, hpqz21⟩ := id jPQE
  obtain ⟨sg, NN, nz, ca, hs1, hs2, hn1, hn2, hn3, hn4, hn5⟩ := AN_u jAN hpqz21
  refine E_119 hX (dp1 hd (by decide)) hG hpz21 hpzz21 hqz21 hqzz21 hpqz21 jNI jPI jQI hs1.1 (c := v11) (f := v15) (v := v19) (sg := sg) (p := pz21) (pz := pzz21) (q := qz21) (qz := qzz21) (fun r22 M31 hG24 F23 p_25 p_26 p_27 p_28 p_29 p_30 => ?_)
  have n_32 : M31.1.2.1 = M.1.2.1 ∧ M31.1.2.2.1 = M.1.2.2.1 := by rw [F23.1]; exact ⟨rfl, rfl⟩
  have b_34 := g_b hG24 (a := 6) (i := 0) (lo := 0) (hi := 150) rfl rfl
  have c_35 : M31.2.1 77 29 = (M.2.1 77 29) := (F_n F23 (show ¬ (6 ≤ 77 ∧ 77 ≤ 10) by decide) rfl)
  have t_36 : (M31.2.1 77 29).toInt = (M.2.1 77 29).toInt := congrArg Int32.toInt c_35
  refine to_popi (pc := 535) rw_0_535 (to_an (pc := 536) rw_0_536 rfl (to_an (pc := 537) rw_0_537 rfl (to_i (pc := 538) rw_0_538 rfl (to_c (pc := 540) rw_0_540 (x := (1 : Int32)) rfl rfl (s_addk (pc := 541) rw_0_541 (A := i.toInt) (B := 1) rfl rfl (by omega) (v := v9) e10 (s_x0k (pc := 542) rw_0_542 hL (A := v9.toInt) rfl (by omega) (by omega) (v := v11) e12 (to_an (pc := 543) rw_0_543 rfl (to_i (pc := 544) rw_0_544 rfl (to_c (pc := 546) rw_0_546 (x := (2 : Int32)) rfl rfl (s_addk (pc := 547) rw_0_547 (A := i.toInt) (B := 2) rfl rfl (by omega) (v := v13) e14 (s_x0k (pc := 548) rw_0_548 hL (A := v13.toInt) rfl (by omega) (by omega) (v := v15) e16 ?_)))))))))))
  refine to_an (pc := 549) rw_0_549 rfl (to_i (pc := 550) rw_0_550 rfl (to_c (pc := 552) rw_0_552 (x := (3 : Int32)) rfl rfl (s_addk (pc := 553) rw_0_553 (A := i.toInt) (B := 3) rfl rfl (by omega) (v := v17) e18 (s_x0k (pc := 554) rw_0_554 hL (A := v17.toInt) rfl (by omega) (by omega) (v := v19) e20 (s_v (pc := 555) rw_0_555 (dp0 hd (by decide)) (ls0 := [.ref 77, .int v11, .int v15, .int v19]) rfl (Nat.le_of_ble_eq_true rfl) (Nat.le_of_ble_eq_true rfl) rfl (to_rc rfl rfl rfl (g_o hG24 rfl)) rfl ?_)))))
  have c_43 : M31.2.1 77 28 = (M.2.1 77 28) := (F_n F23 (show ¬ (6 ≤ 77 ∧ 77 ≤ 10) by decide) rfl)
  have t_44 : (M31.2.1 77 28).toInt = (M.2.1 77 28).toInt := congrArg Int32.toInt c_43
  have j_45 := (NJ_f (tg_475 F23) jNJ)
  have j_46 := (FA_f (tg_476 F23) jFA)
  have j_47 := (PLk_f (tg_477 F23) hs2.1)
  refine E_194 hX (dp1 hd (by decide)) hG24 j_45 j_46 j_47 (c := v11) (f := v15) (v := v19) (sg := sg) (fun r48 M55 hG50 F49 p_51 p_52 p_53 p_54 => ?_)
  have n_56 : M55.1.2.1 = M31.1.2.1 ∧ M55.1.2.2.1 = M31.1.2.2.1 := by rw [F49.1]; exact ⟨rfl, rfl⟩
  have b_58 := g_b hG50 (a := 77) (i := 29) (lo := 0) (hi := 150) rfl rfl
  have k_59 : (0 : Int32).toInt = 0 := rfl
  have k_60 : (1 : Int32).toInt = 1 := rfl
  have k_61 : (2 : Int32).toInt = 2 := rfl
  have k_62 : (3 : Int32).toInt = 3 := rfl
  have k_63 : (4 : Int32).toInt = 4 := rfl
  have k_64 : (5 : Int32).toInt = 5 := rfl
  have z_65 := AN_n hpz21 hpqz21 hs1 hs2 hn1 hn2 hn3 hn4 hn5 F23 (fun a i z => show ¬ (6 ≤ a ∧ a ≤ 10) by omega) F49 (fun a i z => show ¬ (a = 77 ∧ (i = 2 ∨ i = 29) ∨ 90 ≤ a ∧ a ≤ 93) by omega) p_30 p_54 (by omega) (by omega) (by omega) (by omega) (fun z9 => ⟨fun z => by omega, fun z => by omega, fun z => by omega, fun z => by omega, fun z => by omega⟩)
  refine to_popi (pc := 558) rw_0_558 (to_go (pc := 559) rw_0_559 ?_)
  have c_66 : M55.2.1 77 7 = (M.2.1 77 7) := (F_n F49 (show ¬ (77 = 77 ∧ (7 = 2 ∨ 7 = 29) ∨ 90 ≤ 77 ∧ 77 ≤ 93) by decide) (F_n F23 (show ¬ (6 ≤ 77 ∧ 77 ≤ 10) by decide) rfl))
  have t_67 : (M55.2.1 77 7).toInt = (M.2.1 77 7).toInt := congrArg Int32.toInt c_66
  have c_68 : M55.2.1 77 6 = (M.2.1 77 6) := (F_n F49 (show ¬ (77 = 77 ∧ (6 = 2 ∨ 6 = 29) ∨ 90 ≤ 77 ∧ 77 ≤ 93) by decide) (F_n F23 (show ¬ (6 ≤ 77 ∧ 77 ≤ 10) by decide) rfl))
  have t_69 : (M55.2.1 77 6).toInt = (M.2.1 77 6).toInt := congrArg Int32.toInt c_68
  have c_70 : M55.2.1 1 1 = (M.2.1 1 1) := (F_n F49 (show ¬ (1 = 77 ∧ (1 = 2 ∨ 1 = 29) ∨ 90 ≤ 1 ∧ 1 ≤ 93) by decide) (F_n F23 (show ¬ (6 ≤ 1 ∧ 1 ≤ 10) by decide) rfl))
  have t_71 : (M55.2.1 1 1).toInt = (M.2.1 1 1).toInt := congrArg Int32.toInt c_70
  have c_72 : M55.2.1 77 1 = (M.2.1 77 1) := (F_n F49 (show ¬ (77 = 77 ∧ (1 = 2 ∨ 1 = 29) ∨ 90 ≤ 77 ∧ 77 ≤ 93) by decide) (F_n F23 (show ¬ (6 ≤ 77 ∧ 77 ≤ 10) by decide) rfl))
  have t_73 : (M55.2.1 77 1).toInt = (M.2.1 77 1).toInt := congrArg Int32.toInt c_72
  have c_74 : M55.2.1 0 12 = (M.2.1 0 12) := (F_n F49 (show ¬ (0 = 77 ∧ (12 = 2 ∨ 12 = 29) ∨ 90 ≤ 0 ∧ 0 ≤ 93) by decide) (F_n F23 (show ¬ (6 ≤ 0 ∧ 0 ≤ 10) by decide) rfl))
  have t_75 : (M55.2.1 0 12).toInt = (M.2.1 0 12).toInt := congrArg Int32.toInt c_74
  have c_76 : M55.2.1 77 28 = (M.2.1 77 28) := (F_n F49 (show ¬ (77 = 77 ∧ (28 = 2 ∨ 28 = 29) ∨ 90 ≤ 77 ∧ 77 ≤ 93) by decide) c_43)
  have t_77 : (M55.2.1 77 28).toInt = (M.2.1 77 28).toInt := congrArg Int32.toInt c_76
  have c_78 : M55.2.1 17 4 = (M.2.1 17 4) := (F_n F49 (show ¬ (17 = 77 ∧ (4 = 2 ∨ 4 = 29) ∨ 90 ≤ 17 ∧ 17 ≤ 93) by decide) (F_n F23 (show ¬ (6 ≤ 17 ∧ 17 ≤ 10) by decide) rfl))
  have t_79 : (M55.2.1 17 4).toInt = (M.2.1 17 4).toInt := congrArg Int32.toInt c_78
  have c_80 : M55.2.1 77 41 = (M.2.1 77 41) := (F_n F49 (show ¬ (77 = 77 ∧ (41 = 2 ∨ 41 = 29) ∨ 90 ≤ 77 ∧ 77 ≤ 93) by decide) (F_n F23 (show ¬ (6 ≤ 77 ∧ 77 ≤ 10) by decide) rfl))
  have t_81 : (M55.2.1 77 41).toInt = (M.2.1 77 41).toInt := congrArg Int32.toInt c_80
  have c_82 : M55.2.1 6 0 = (M31.2.1 6 0) := (F_n F49 (show ¬ (6 = 77 ∧ (0 = 2 ∨ 0 = 29) ∨ 90 ≤ 6 ∧ 6 ≤ 93) by decide) rfl)
  have t_83 : (M55.2.1 6 0).toInt = (M31.2.1 6 0).toInt := congrArg Int32.toInt c_82
  have j_84 := (PI_f (tg_478 F49) p_26)
  have j_85 := (NI_f (tg_479 F49) p_25)
  have j_86 := (QI_f (tg_480 F49) p_27)
  have j_87 := (PQE_r F49.2.1 (PQE_r F23.2.1 jPQE))
  have j_88 := (FA_f (tg_481 F49) j_46)
  have j_89 := (WC_f (tg_482 F49) (WC_f (tg_483 F23) jWC))
  have j_90 := (PS_f (tg_484 F49) (PS_f (tg_485 F23) jPS))
  have j_91 := (KQ_f (tg_486 F49) (KQ_f (tg_487 F23) jKQ))
  have j_92 := (TP_f (tg_488 F49) (TP_f (tg_489 F23) jTP))
  have j_93 := (W9_f (tg_490 F49) (W9_f (tg_491 F23) jW9))
  have j_94 := (NE_r F49.2.1 (NE_r F23.2.1 jNE))
  have j_95 := (W8_f (tg_492 F49) (W8_f (tg_493 F23) jW8))
  exact h M55 (u5) (u6) ⟨⟨⟨⟨⟨⟨⟨⟨hG50, ⟨j_84, j_85, j_86, j_87⟩, ⟨j_88, j_89, p_51, j_90, j_91⟩, by omega, by omega⟩, j_92, j_93⟩, j_94, by omega⟩, AN_a z_65⟩, by omega⟩, j_95⟩, by omega⟩, z_65⟩ (by omega) (by omega)
set_option maxRecDepth 4000 in
set_option maxHeartbeats 0 in
theorem LW_11 {X : mm_X} {d L : Nat} {M : mm_M} {Q : Option Value → mm_M → Prop} {i : Int32} {u5 u6 : Value} (hX : g_X X) (hW : g_W X) (hW2 : g_W2 X) (hL : (X 0).1 = L) (h3 : L ≤ 3072) (hd : 40 ≤ d) (hi : 0 ≤ i.toInt) (hi2 : i.toInt + 6 ≤ (L : Int)) (H : LI9 M) (h : ∀ (M1 : mm_M) (v5 v6 : Value), LI9 M1 → M1.1.2.1 ≤ M.1.2.1 + 1 → M1.1.2.2.1 ≤ M.1.2.2.1 + 6 → mm_T X d 0 1313 [.ref mm_ext, .ref 0, .ref 77, .ref 125, .int i, v5, v6] [] M1 Q) : mm_T X d 0 562 [.ref mm_ext, .ref 0, .ref 77, .ref 125, .int i, u5, u6] [] M Q := by
  obtain ⟨⟨⟨⟨⟨⟨⟨⟨hG, ⟨jPI, jNI, jQI, jPQE⟩, ⟨jFA, jWC, jNJ, jPS, jKQ⟩, jJ, jE⟩, jTP, jW9⟩, jNE, jCC⟩, -⟩, jOV⟩, jW8⟩, jNN⟩, jAN⟩ := H
  have b_1 := g_b hG (a := 77) (i := 7) (lo := 0) (hi := 500) rfl rfl
  have b_2 := g_b hG (a := 77) (i := 6) (lo := 0) (hi := 500) rfl rfl
  have b_3 := g_b hG (a := 1) (i := 1) (lo := 0) (hi := 500) rfl rfl
  have b_4 := g_b hG (a := 77) (i := 1) (lo := 0) (hi := 500) rfl rfl
  have b_5 := g_b hG (a := 0) (i := 12) (lo := 0) (hi := 30) rfl rfl
  have b_6 := g_b hG (a := 77) (i := 28) (lo := 0) (hi := 30) rfl rfl
  have b_7 := g_b hG (a := 6) (i := 0) (lo := 0) (hi := 150) rfl rfl
  have b_8 := g_b hG (a := 77) (i := 29) (lo := 0) (hi := 150) rfl rfl
  refine to_an (pc := 562) rw_0_562 rfl (to_an (pc := 563) rw_0_563 rfl (to_i (pc := 564) rw_0_564 rfl (to_c (pc := 566) rw_0_566 (x := (1 : Int32)) rfl rfl (s_add (pc := 567) rw_0_567 (A := i.toInt) (B := 1) rfl rfl (by omega) (fun v9 e10 => s_x0 (pc := 568) rw_0_568 hL (A := v9.toInt) rfl (by omega) (by omega) (fun v11 e12 => to_an (pc := 569) rw_0_569 rfl (to_i (pc := 570) rw_0_570 rfl (to_c (pc := 572) rw_0_572 (x := (2 : Int32)) rfl rfl (s_add (pc := 573) rw_0_573 (A := i.toInt) (B := 2) rfl rfl (by omega) (fun v13 e14 => s_x0 (pc := 574) rw_0_574 hL (A := v13.toInt) rfl (by omega) (by omega) (fun v15 e16 => s_v (pc := 575) rw_0_575 (dp0 hd (by decide)) (ls0 := [.ref 0, .int v11, .int v15]) rfl (Nat.le_of_ble_eq_true rfl) (Nat.le_of_ble_eq_true rfl) rfl (to_rc rfl rfl rfl (g_o hG rfl)) rfl ?_)))))))))))
  obtain ⟨pz17, pzz17, qz17, qzz17, hpz17, hpzz17, hqz17, hqzz17, hpqz17⟩ := id jPQE
  obtain ⟨sg, NN, nz, ca, hs1, hs2, hn1, hn2, hn3, hn4, hn5⟩ := AN_u jAN hpqz17
  refine E_120 hX (dp1 hd (by decide)) hG hpz17 hpzz17 hqz17 hqzz17 hpqz17 jNI jPI jQI hs1.1 (c := v11) (w := v15) (sg := sg) (p := pz17) (pz := pzz17) (q := qz17) (qz := qzz17) (fun r18 M27 hG20 F19 p_21 p_22 p_23 p_24 p_25 p_26 => ?_)
  have n_28 : M27.1.2.1 = M.1.2.1 ∧ M27.1.2.2.1 = M.1.2.2.1 := by rw [F19.1]; exact ⟨rfl, rfl⟩
  have b_30 := g_b hG20 (a := 6) (i := 0) (lo := 0) (hi := 150) rfl rfl
  have c_31 : M27.2.1 77 29 = (M.2.1 77 29) := (F_n F19 (show ¬ (6 ≤ 77 ∧ 77 ≤ 10) by decide) rfl)
  have t_32 : (M27.2.1 77 29).toInt = (M.2.1 77 29).toInt := congrArg Int32.toInt c_31
  refine to_popi (pc := 578) rw_0_578 (to_an (pc := 579) rw_0_579 rfl (to_an (pc := 580) rw_0_580 rfl (to_i (pc := 581) rw_0_581 rfl (to_c (pc := 583) rw_0_583 (x := (1 : Int32)) rfl rfl (s_addk (pc := 584) rw_0_584 (A := i.toInt) (B := 1) rfl rfl (by omega) (v := v9) e10 (s_x0k (pc := 585) rw_0_585 hL (A := v9.toInt) rfl (by omega) (by omega) (v := v11) e12 (to_an (pc := 586) rw_0_586 rfl (to_i (pc := 587) rw_0_587 rfl (to_c (pc := 589) rw_0_589 (x := (2 : Int32)) rfl rfl (s_addk (pc := 590) rw_0_590 (A := i.toInt) (B := 2) rfl rfl (by omega) (v := v13) e14 (s_x0k (pc := 591) rw_0_591 hL (A := v13.toInt) rfl (by omega) (by omega) (v := v15) e16 ?_)))))))))))
  refine s_v (pc := 592) rw_0_592 (dp0 hd (by decide)) (ls0 := [.ref 77, .int v11, .int v15]) rfl (Nat.le_of_ble_eq_true rfl) (Nat.le_of_ble_eq_true rfl) rfl (to_rc rfl rfl rfl (g_o hG20 rfl)) rfl ?_
  have c_37 : M27.2.1 77 28 = (M.2.1 77 28) := (F_n F19 (show ¬ (6 ≤ 77 ∧ 77 ≤ 10) by decide) rfl)
  have t_38 : (M27.2.1 77 28).toInt = (M.2.1 77 28).toInt := congrArg Int32.toInt c_37
  have j_39 := (NJ_f (tg_475 F19) jNJ)
  have j_40 := (PLk_f (tg_477 F19) hs2.1)
  refine E_195 hX (dp1 hd (by decide)) hG20 j_39 j_40 (c := v11) (w := v15) (sg := sg) (fun r41 M48 hG43 F42 p_44 p_45 p_46 p_47 => ?_)
  have n_49 : M48.1.2.1 = M27.1.2.1 ∧ M48.1.2.2.1 = M27.1.2.2.1 := by rw [F42.1]; exact ⟨rfl, rfl⟩
  have b_51 := g_b hG43 (a := 77) (i := 29) (lo := 0) (hi := 150) rfl rfl
  have k_52 : (0 : Int32).toInt = 0 := rfl
  have k_53 : (1 : Int32).toInt = 1 := rfl
  have k_54 : (2 : Int32).toInt = 2 := rfl
  have k_55 : (3 : Int32).toInt = 3 := rfl
  have k_56 : (4 : Int32).toInt = 4 := rfl
  have k_57 : (5 : Int32).toInt = 5 := rfl
  have z_58 := AN_n hpz17 hpqz17 hs1 hs2 hn1 hn2 hn3 hn4 hn5 F19 (fun a i z => show ¬ (6 ≤ a ∧ a ≤ 10) by omega) F42 (fun a i z => show ¬ (a = 77 ∧ (i = 2 ∨ i = 29) ∨ 90 ≤ a ∧ a ≤ 93) by omega) p_26 p_47 (by omega) (by omega) (by omega) (by omega) (fun z9 => ⟨fun z => by omega, fun z => by omega, fun z => by omega, fun z => by omega, fun z => by omega⟩)
  refine to_popi (pc := 595) rw_0_595 (to_go (pc := 596) rw_0_596 ?_)
  have c_59 : M48.2.1 77 7 = (M.2.1 77 7) := (F_n F42 (show ¬ (77 = 77 ∧ (7 = 2 ∨ 7 = 29) ∨ 90 ≤ 77 ∧ 77 ≤ 93) by decide) (F_n F19 (show ¬ (6 ≤ 77 ∧ 77 ≤ 10) by decide) rfl))
  have t_60 : (M48.2.1 77 7).toInt = (M.2.1 77 7).toInt := congrArg Int32.toInt c_59
  have c_61 : M48.2.1 77 6 = (M.2.1 77 6) := (F_n F42 (show ¬ (77 = 77 ∧ (6 = 2 ∨ 6 = 29) ∨ 90 ≤ 77 ∧ 77 ≤ 93) by decide) (F_n F19 (show ¬ (6 ≤ 77 ∧ 77 ≤ 10) by decide) rfl))
  have t_62 : (M48.2.1 77 6).toInt = (M.2.1 77 6).toInt := congrArg Int32.toInt c_61
  have c_63 : M48.2.1 1 1 = (M.2.1 1 1) := (F_n F42 (show ¬ (1 = 77 ∧ (1 = 2 ∨ 1 = 29) ∨ 90 ≤ 1 ∧ 1 ≤ 93) by decide) (F_n F19 (show ¬ (6 ≤ 1 ∧ 1 ≤ 10) by decide) rfl))
  have t_64 : (M48.2.1 1 1).toInt = (M.2.1 1 1).toInt := congrArg Int32.toInt c_63
  have c_65 : M48.2.1 77 1 = (M.2.1 77 1) := (F_n F42 (show ¬ (77 = 77 ∧ (1 = 2 ∨ 1 = 29) ∨ 90 ≤ 77 ∧ 77 ≤ 93) by decide) (F_n F19 (show ¬ (6 ≤ 77 ∧ 77 ≤ 10) by decide) rfl))
  have t_66 : (M48.2.1 77 1).toInt = (M.2.1 77 1).toInt := congrArg Int32.toInt c_65
  have c_67 : M48.2.1 0 12 = (M.2.1 0 12) := (F_n F42 (show ¬ (0 = 77 ∧ (12 = 2 ∨ 12 = 29) ∨ 90 ≤ 0 ∧ 0 ≤ 93) by decide) (F_n F19 (show ¬ (6 ≤ 0 ∧ 0 ≤ 10) by decide) rfl))
  have t_68 : (M48.2.1 0 12).toInt = (M.2.1 0 12).toInt := congrArg Int32.toInt c_67
  have c_69 : M48.2.1 77 28 = (M.2.1 77 28) := (F_n F42 (show ¬ (77 = 77 ∧ (28 = 2 ∨ 28 = 29) ∨ 90 ≤ 77 ∧ 77 ≤ 93) by decide) c_37)
  have t_70 : (M48.2.1 77 28).toInt = (M.2.1 77 28).toInt := congrArg Int32.toInt c_69
  have c_71 : M48.2.1 17 4 = (M.2.1 17 4) := (F_n F42 (show ¬ (17 = 77 ∧ (4 = 2 ∨ 4 = 29) ∨ 90 ≤ 17 ∧ 17 ≤ 93) by decide) (F_n F19 (show ¬ (6 ≤ 17 ∧ 17 ≤ 10) by decide) rfl))
  have t_72 : (M48.2.1 17 4).toInt = (M.2.1 17 4).toInt := congrArg Int32.toInt c_71
  have c_73 : M48.2.1 77 41 = (M.2.1 77 41) := (F_n F42 (show ¬ (77 = 77 ∧ (41 = 2 ∨ 41 = 29) ∨ 90 ≤ 77 ∧ 77 ≤ 93) by decide) (F_n F19 (show ¬ (6 ≤ 77 ∧ 77 ≤ 10) by decide) rfl))
  have t_74 : (M48.2.1 77 41).toInt = (M.2.1 77 41).toInt := congrArg Int32.toInt c_73
  have c_75 : M48.2.1 6 0 = (M27.2.1 6 0) := (F_n F42 (show ¬ (6 = 77 ∧ (0 = 2 ∨ 0 = 29) ∨ 90 ≤ 6 ∧ 6 ≤ 93) by decide) rfl)
  have t_76 : (M48.2.1 6 0).toInt = (M27.2.1 6 0).toInt := congrArg Int32.toInt c_75
  have j_77 := (PI_f (tg_478 F42) p_22)
  have j_78 := (NI_f (tg_479 F42) p_21)
  have j_79 := (QI_f (tg_480 F42) p_23)
  have j_80 := (PQE_r F42.2.1 (PQE_r F19.2.1 jPQE))
  have j_81 := (FA_f (tg_481 F42) (FA_f (tg_476 F19) jFA))
  have j_82 := (WC_f (tg_482 F42) (WC_f (tg_483 F19) jWC))
  have j_83 := (PS_f (tg_484 F42) (PS_f (tg_485 F19) jPS))
  have j_84 := (KQ_f (tg_486 F42) (KQ_f (tg_487 F19) jKQ))
  have j_85 := (TP_f (tg_488 F42) (TP_f (tg_489 F19) jTP))
  have j_86 := (W9_f (tg_490 F42) (W9_f (tg_491 F19) jW9))
  have j_87 := (NE_r F42.2.1 (NE_r F19.2.1 jNE))
  have j_88 := (W8_f (tg_492 F42) (W8_f (tg_493 F19) jW8))
  exact h M48 (u5) (u6) ⟨⟨⟨⟨⟨⟨⟨⟨hG43, ⟨j_77, j_78, j_79, j_80⟩, ⟨j_81, j_82, p_44, j_83, j_84⟩, by omega, by omega⟩, j_85, j_86⟩, j_87, by omega⟩, AN_a z_58⟩, by omega⟩, j_88⟩, by omega⟩, z_58⟩ (by omega) (by omega)
set_option maxRecDepth 4000 in
set_option maxHeartbeats 0 in
theorem LW_12 {X : mm_X} {d L : Nat} {M : mm_M} {Q : Option Value → mm_M → Prop} {i : Int32} {u5 u6 : Value} (hX : g_X X) (hW : g_W X) (hW2 : g_W2 X) (hL : (X 0).1 = L) (h3 : L ≤ 3072) (hd : 40 ≤ d) (hi : 0 ≤ i.toInt) (hi2 : i.toInt + 6 ≤ (L : Int)) (H : LI9 M) (h : ∀ (M1 : mm_M) (v5 v6 : Value), LI9 M1 → M1.1.2.1 ≤ M.1.2.1 + 1 → M1.1.2.2.1 ≤ M.1.2.2.1 + 6 → mm_T X d 0 1313 [.ref mm_ext, .ref 0, .ref 77, .ref 125, .int i, v5, v6] [] M1 Q) : mm_T X d 0 599 [.ref mm_ext, .ref 0, .ref 77, .ref 125, .int i, u5, u6] [] M Q := by
  obtain ⟨⟨⟨⟨⟨⟨⟨⟨hG, ⟨jPI, jNI, jQI, jPQE⟩, ⟨jFA, jWC, jNJ, jPS, jKQ⟩, jJ, jE⟩, jTP, jW9⟩, jNE, jCC⟩, -⟩, jOV⟩, jW8⟩, jNN⟩, jAN⟩ := H
  have b_1 := g_b hG (a := 77) (i := 7) (lo := 0) (hi := 500) rfl rfl
  have b_2 := g_b hG (a := 77) (i := 6) (lo := 0) (hi := 500) rfl rfl
  have b_3 := g_b hG (a := 1) (i := 1) (lo := 0) (hi := 500) rfl rfl
  have b_4 := g_b hG (a := 77) (i := 1) (lo := 0) (hi := 500) rfl rfl
  have b_5 := g_b hG (a := 0) (i := 12) (lo := 0) (hi := 30) rfl rfl
  have b_6 := g_b hG (a := 77) (i := 28) (lo := 0) (hi := 30) rfl rfl
  have b_7 := g_b hG (a := 6) (i := 0) (lo := 0) (hi := 150) rfl rfl
  have b_8 := g_b hG (a := 77) (i := 29) (lo := 0) (hi := 150) rfl rfl
  refine to_an (pc := 599) rw_0_599 rfl (to_an (pc := 600) rw_0_600 rfl (to_i (pc := 601) rw_0_601 rfl (to_c (pc := 603) rw_0_603 (x := (1 : Int32)) rfl rfl (s_add (pc := 604) rw_0_604 (A := i.toInt) (B := 1) rfl rfl (by omega) (fun v9 e10 => s_x0 (pc := 605) rw_0_605 hL (A := v9.toInt) rfl (by omega) (by omega) (fun v11 e12 => to_an (pc := 606) rw_0_606 rfl (to_i (pc := 607) rw_0_607 rfl (to_c (pc := 609) rw_0_609 (x := (2 : Int32)) rfl rfl (s_add (pc := 610) rw_0_610 (A := i.toInt) (B := 2) rfl rfl (by omega) (fun v13 e14 => s_x0 (pc := 611) rw_0_611 hL (A := v13.toInt) rfl (by omega) (by omega) (fun v15 e16 => to_an (pc := 612) rw_0_612 rfl ?_)))))))))))
  refine to_i (pc := 613) rw_0_613 rfl (to_c (pc := 615) rw_0_615 (x := (3 : Int32)) rfl rfl (s_add (pc := 616) rw_0_616 (A := i.toInt) (B := 3) rfl rfl (by omega) (fun v17 e18 => s_x0 (pc := 617) rw_0_617 hL (A := v17.toInt) rfl (by omega) (by omega) (fun v19 e20 => b_ieq (pc := 618) rw_0_618 (A := v19.toInt) rfl (fun h21 => ?_) (fun h21 => ?_)))))
  · refine to_c (pc := 625) rw_0_625 (x := (0 : Int32)) rfl rfl (s_v (pc := 626) rw_0_626 (dp0 hd (by decide)) (ls0 := [.ref 0, .int v11, .int v15, .int (0 : Int32)]) rfl (Nat.le_of_ble_eq_true rfl) (Nat.le_of_ble_eq_true rfl) rfl (to_rc rfl rfl rfl (g_o hG rfl)) rfl ?_)
    have k_22 : (0 : Int32).toInt = 0 := rfl
    obtain ⟨pz23, pzz23, qz23, qzz23, hpz23, hpzz23, hqz23, hqzz23, hpqz23⟩ := id jPQE
    obtain ⟨sg, NN, nz, ca, hs1, hs2, hn1, hn2, hn3, hn4, hn5⟩ := AN_u jAN hpqz23
    refine E_121 hX (dp1 hd (by decide)) hG hpz23 hpzz23 hqz23 hqzz23 hpqz23 (by omega) (by omega) jNI jPI jQI hs1.1 (c := v11) (e := v15) (m := (0 : Int32)) (sg := sg) (p := pz23) (pz := pzz23) (q := qz23) (qz := qzz23) (fun r24 M33 hG26 F25 p_27 p_28 p_29 p_30 p_31 p_32 => ?_)
    have n_34 : M33.1.2.1 = M.1.2.1 ∧ M33.1.2.2.1 = M.1.2.2.1 := by rw [F25.1]; exact ⟨rfl, rfl⟩
    have b_36 := g_b hG26 (a := 6) (i := 0) (lo := 0) (hi := 150) rfl rfl
    have c_37 : M33.2.1 77 29 = (M.2.1 77 29) := (F_n F25 (show ¬ (6 ≤ 77 ∧ 77 ≤ 10) by decide) rfl)
    have t_38 : (M33.2.1 77 29).toInt = (M.2.1 77 29).toInt := congrArg Int32.toInt c_37
    refine to_popi (pc := 629) rw_0_629 (to_an (pc := 630) rw_0_630 rfl (to_an (pc := 631) rw_0_631 rfl (to_i (pc := 632) rw_0_632 rfl (to_c (pc := 634) rw_0_634 (x := (1 : Int32)) rfl rfl (s_addk (pc := 635) rw_0_635 (A := i.toInt) (B := 1) rfl rfl (by omega) (v := v9) e10 (s_x0k (pc := 636) rw_0_636 hL (A := v9.toInt) rfl (by omega) (by omega) (v := v11) e12 (to_an (pc := 637) rw_0_637 rfl (to_i (pc := 638) rw_0_638 rfl (to_c (pc := 640) rw_0_640 (x := (2 : Int32)) rfl rfl (s_addk (pc := 641) rw_0_641 (A := i.toInt) (B := 2) rfl rfl (by omega) (v := v13) e14 (s_x0k (pc := 642) rw_0_642 hL (A := v13.toInt) rfl (by omega) (by omega) (v := v15) e16 ?_)))))))))))
    refine to_an (pc := 643) rw_0_643 rfl (to_i (pc := 644) rw_0_644 rfl (to_c (pc := 646) rw_0_646 (x := (3 : Int32)) rfl rfl (s_addk (pc := 647) rw_0_647 (A := i.toInt) (B := 3) rfl rfl (by omega) (v := v17) e18 (s_x0k (pc := 648) rw_0_648 hL (A := v17.toInt) rfl (by omega) (by omega) (v := v19) e20 (b_ieq_t (pc := 649) rw_0_649 (A := v19.toInt) rfl (by omega) (to_c (pc := 656) rw_0_656 (x := (0 : Int32)) rfl rfl (s_v (pc := 657) rw_0_657 (dp0 hd (by decide)) (ls0 := [.ref 77, .int v11, .int v15, .int (0 : Int32)]) rfl (Nat.le_of_ble_eq_true rfl) (Nat.le_of_ble_eq_true rfl) rfl (to_rc rfl rfl rfl (g_o hG26 rfl)) rfl ?_)))))))
    have c_45 : M33.2.1 77 28 = (M.2.1 77 28) := (F_n F25 (show ¬ (6 ≤ 77 ∧ 77 ≤ 10) by decide) rfl)
    have t_46 : (M33.2.1 77 28).toInt = (M.2.1 77 28).toInt := congrArg Int32.toInt c_45
    have j_47 := (NJ_f (tg_475 F25) jNJ)
    have j_48 := (PLk_f (tg_477 F25) hs2.1)
    refine E_196 hX (dp1 hd (by decide)) hG26 (by omega) (by omega) j_47 j_48 (c := v11) (e := v15) (m := (0 : Int32)) (sg := sg) (fun r49 M56 hG51 F50 p_52 p_53 p_54 p_55 => ?_)
    have n_57 : M56.1.2.1 = M33.1.2.1 ∧ M56.1.2.2.1 = M33.1.2.2.1 := by rw [F50.1]; exact ⟨rfl, rfl⟩
    have b_59 := g_b hG51 (a := 77) (i := 29) (lo := 0) (hi := 150) rfl rfl
    have k_60 : (1 : Int32).toInt = 1 := rfl
    have k_61 : (2 : Int32).toInt = 2 := rfl
    have k_62 : (3 : Int32).toInt = 3 := rfl
    have k_63 : (4 : Int32).toInt = 4 := rfl
    have k_64 : (5 : Int32).toInt = 5 := rfl
    have z_65 := x_tk_b (0 : Int32)
    have z_66 := AN_n hpz23 hpqz23 hs1 hs2 hn1 hn2 hn3 hn4 hn5 F25 (fun a i z => show ¬ (6 ≤ a ∧ a ≤ 10) by omega) F50 (fun a i z => show ¬ (a = 77 ∧ (i = 2 ∨ i = 29) ∨ 90 ≤ a ∧ a ≤ 93) by omega) p_32 p_55 (by omega) (by omega) (by omega) (by omega) (fun z9 => ⟨fun z => by omega, fun z => by omega, fun z => by omega, fun z => by omega, fun z => by omega⟩)
    refine to_popi (pc := 660) rw_0_660 (to_go (pc := 661) rw_0_661 ?_)
    have c_67 : M56.2.1 77 7 = (M.2.1 77 7) := (F_n F50 (show ¬ (77 = 77 ∧ (7 = 2 ∨ 7 = 29) ∨ 90 ≤ 77 ∧ 77 ≤ 93) by decide) (F_n F25 (show ¬ (6 ≤ 77 ∧ 77 ≤ 10) by decide) rfl))
    have t_68 : (M56.2.1 77 7).toInt = (M.2.1 77 7).toInt := congrArg Int32.toInt c_67
    have c_69 : M56.2.1 77 6 = (M.2.1 77 6) := (F_n F50 (show ¬ (77 = 77 ∧ (6 = 2 ∨ 6 = 29) ∨ 90 ≤ 77 ∧ 77 ≤ 93) by decide) (F_n F25 (show ¬ (6 ≤ 77 ∧ 77 ≤ 10) by decide) rfl))
    have t_70 : (M56.2.1 77 6).toInt = (M.2.1 77 6).toInt := congrArg Int32.toInt c_69
    have c_71 : M56.2.1 1 1 = (M.2.1 1 1) := (F_n F50 (show ¬ (1 = 77 ∧ (1 = 2 ∨ 1 = 29) ∨ 90 ≤ 1 ∧ 1 ≤ 93) by decide) (F_n F25 (show ¬ (6 ≤ 1 ∧ 1 ≤ 10) by decide) rfl))
    have t_72 : (M56.2.1 1 1).toInt = (M.2.1 1 1).toInt := congrArg Int32.toInt c_71
    have c_73 : M56.2.1 77 1 = (M.2.1 77 1) := (F_n F50 (show ¬ (77 = 77 ∧ (1 = 2 ∨ 1 = 29) ∨ 90 ≤ 77 ∧ 77 ≤ 93) by decide) (F_n F25 (show ¬ (6 ≤ 77 ∧ 77 ≤ 10) by decide) rfl))
    have t_74 : (M56.2.1 77 1).toInt = (M.2.1 77 1).toInt := congrArg Int32.toInt c_73
    have c_75 : M56.2.1 0 12 = (M.2.1 0 12) := (F_n F50 (show ¬ (0 = 77 ∧ (12 = 2 ∨ 12 = 29) ∨ 90 ≤ 0 ∧ 0 ≤ 93) by decide) (F_n F25 (show ¬ (6 ≤ 0 ∧ 0 ≤ 10) by decide) rfl))
    have t_76 : (M56.2.1 0 12).toInt = (M.2.1 0 12).toInt := congrArg Int32.toInt c_75
    have c_77 : M56.2.1 77 28 = (M.2.1 77 28) := (F_n F50 (show ¬ (77 = 77 ∧ (28 = 2 ∨ 28 = 29) ∨ 90 ≤ 77 ∧ 77 ≤ 93) by decide) c_45)
    have t_78 : (M56.2.1 77 28).toInt = (M.2.1 77 28).toInt := congrArg Int32.toInt c_77
    have c_79 : M56.2.1 17 4 = (M.2.1 17 4) := (F_n F50 (show ¬ (17 = 77 ∧ (4 = 2 ∨ 4 = 29) ∨ 90 ≤ 17 ∧ 17 ≤ 93) by decide) (F_n F25 (show ¬ (6 ≤ 17 ∧ 17 ≤ 10) by decide) rfl))
    have t_80 : (M56.2.1 17 4).toInt = (M.2.1 17 4).toInt := congrArg Int32.toInt c_79
    have c_81 : M56.2.1 77 41 = (M.2.1 77 41) := (F_n F50 (show ¬ (77 = 77 ∧ (41 = 2 ∨ 41 = 29) ∨ 90 ≤ 77 ∧ 77 ≤ 93) by decide) (F_n F25 (show ¬ (6 ≤ 77 ∧ 77 ≤ 10) by decide) rfl))
    have t_82 : (M56.2.1 77 41).toInt = (M.2.1 77 41).toInt := congrArg Int32.toInt c_81
    have c_83 : M56.2.1 6 0 = (M33.2.1 6 0) := (F_n F50 (show ¬ (6 = 77 ∧ (0 = 2 ∨ 0 = 29) ∨ 90 ≤ 6 ∧ 6 ≤ 93) by decide) rfl)
    have t_84 : (M56.2.1 6 0).toInt = (M33.2.1 6 0).toInt := congrArg Int32.toInt c_83
    have j_85 := (PI_f (tg_478 F50) p_28)
    have j_86 := (NI_f (tg_479 F50) p_27)
    have j_87 := (QI_f (tg_480 F50) p_29)
    have j_88 := (PQE_r F50.2.1 (PQE_r F25.2.1 jPQE))
    have j_89 := (FA_f (tg_481 F50) (FA_f (tg_476 F25) jFA))
    have j_90 := (WC_f (tg_482 F50) (WC_f (tg_483 F25) jWC))
    have j_91 := (PS_f (tg_484 F50) (PS_f (tg_485 F25) jPS))
    have j_92 := (KQ_f (tg_486 F50) (KQ_f (tg_487 F25) jKQ))
    have j_93 := (TP_f (tg_488 F50) (TP_f (tg_489 F25) jTP))
    have j_94 := (W9_f (tg_490 F50) (W9_f (tg_491 F25) jW9))
    have j_95 := (NE_r F50.2.1 (NE_r F25.2.1 jNE))
    have j_96 := (W8_f (tg_492 F50) (W8_f (tg_493 F25) jW8))
    exact h M56 (u5) (u6) ⟨⟨⟨⟨⟨⟨⟨⟨hG51, ⟨j_85, j_86, j_87, j_88⟩, ⟨j_89, j_90, p_52, j_91, j_92⟩, by omega, by omega⟩, j_93, j_94⟩, j_95, by omega⟩, AN_a z_66⟩, by omega⟩, j_96⟩, by omega⟩, z_66⟩ (by omega) (by omega)
  · refine to_c (pc := 621) rw_0_621 (x := (1 : Int32)) rfl rfl (to_go (pc := 622) rw_0_622 (s_v (pc := 626) rw_0_626 (dp0 hd (by decide)) (ls0 := [.ref 0, .int v11, .int v15, .int (1 : Int32)]) rfl (Nat.le_of_ble_eq_true rfl) (Nat.le_of_ble_eq_true rfl) rfl (to_rc rfl rfl rfl (g_o hG rfl)) rfl ?_))
    have k_97 : (1 : Int32).toInt = 1 := rfl
    obtain ⟨pz98, pzz98, qz98, qzz98, hpz98, hpzz98, hqz98, hqzz98, hpqz98⟩ := id jPQE
    obtain ⟨sg, NN, nz, ca, hs1, hs2, hn1, hn2, hn3, hn4, hn5⟩ := AN_u jAN hpqz98
    refine E_121 hX (dp1 hd (by decide)) hG hpz98 hpzz98 hqz98 hqzz98 hpqz98 (by omega) (by omega) jNI jPI jQI hs1.1 (c := v11) (e := v15) (m := (1 : Int32)) (sg := sg) (p := pz98) (pz := pzz98) (q := qz98) (qz := qzz98) (fun r99 M108 hG101 F100 p_102 p_103 p_104 p_105 p_106 p_107 => ?_)
    have n_109 : M108.1.2.1 = M.1.2.1 ∧ M108.1.2.2.1 = M.1.2.2.1 := by rw [F100.1]; exact ⟨rfl, rfl⟩
    have b_111 := g_b hG101 (a := 6) (i := 0) (lo := 0) (hi := 150) rfl rfl
    have c_112 : M108.2.1 77 29 = (M.2.1 77 29) := (F_n F100 (show ¬ (6 ≤ 77 ∧ 77 ≤ 10) by decide) rfl)
    have t_113 : (M108.2.1 77 29).toInt = (M.2.1 77 29).toInt := congrArg Int32.toInt c_112
    refine to_popi (pc := 629) rw_0_629 (to_an (pc := 630) rw_0_630 rfl (to_an (pc := 631) rw_0_631 rfl (to_i (pc := 632) rw_0_632 rfl (to_c (pc := 634) rw_0_634 (x := (1 : Int32)) rfl rfl (s_addk (pc := 635) rw_0_635 (A := i.toInt) (B := 1) rfl rfl (by omega) (v := v9) e10 (s_x0k (pc := 636) rw_0_636 hL (A := v9.toInt) rfl (by omega) (by omega) (v := v11) e12 (to_an (pc := 637) rw_0_637 rfl (to_i (pc := 638) rw_0_638 rfl (to_c (pc := 640) rw_0_640 (x := (2 : Int32)) rfl rfl (s_addk (pc := 641) rw_0_641 (A := i.toInt) (B := 2) rfl rfl (by omega) (v := v13) e14 (s_x0k (pc := 642) rw_0_642 hL (A := v13.toInt) rfl (by omega) (by omega) (v := v15) e16 ?_)))))))))))
    refine to_an (pc := 643) rw_0_643 rfl (to_i (pc := 644) rw_0_644 rfl (to_c (pc := 646) rw_0_646 (x := (3 : Int32)) rfl rfl (s_addk (pc := 647) rw_0_647 (A := i.toInt) (B := 3) rfl rfl (by omega) (v := v17) e18 (s_x0k (pc := 648) rw_0_648 hL (A := v17.toInt) rfl (by omega) (by omega) (v := v19) e20 (b_ieq (pc := 649) rw_0_649 (A := v19.toInt) rfl (fun h120 => ?_) (fun h120 => ?_))))))
    · refine to_c (pc := 656) rw_0_656 (x := (0 : Int32)) rfl rfl (s_v (pc := 657) rw_0_657 (dp0 hd (by decide)) (ls0 := [.ref 77, .int v11, .int v15, .int (0 : Int32)]) rfl (Nat.le_of_ble_eq_true rfl) (Nat.le_of_ble_eq_true rfl) rfl (to_rc rfl rfl rfl (g_o hG101 rfl)) rfl ?_)
      have k_121 : (0 : Int32).toInt = 0 := rfl
      have c_122 : M108.2.1 77 28 = (M.2.1 77 28) := (F_n F100 (show ¬ (6 ≤ 77 ∧ 77 ≤ 10) by decide) rfl)
      have t_123 : (M108.2.1 77 28).toInt = (M.2.1 77 28).toInt := congrArg Int32.toInt c_122
      have j_124 := (NJ_f (tg_475 F100) jNJ)
      have j_125 := (PLk_f (tg_477 F100) hs2.1)
      refine E_196 hX (dp1 hd (by decide)) hG101 (by omega) (by omega) j_124 j_125 (c := v11) (e := v15) (m := (0 : Int32)) (sg := sg) (fun r126 M133 hG128 F127 p_129 p_130 p_131 p_132 => ?_)
      have n_134 : M133.1.2.1 = M108.1.2.1 ∧ M133.1.2.2.1 = M108.1.2.2.1 := by rw [F127.1]; exact ⟨rfl, rfl⟩
      have b_136 := g_b hG128 (a := 77) (i := 29) (lo := 0) (hi := 150) rfl rfl
      have k_137 : (2 : Int32).toInt = 2 := rfl
      have k_138 : (3 : Int32).toInt = 3 := rfl
      have k_139 : (4 : Int32).toInt = 4 := rfl
      have k_140 : (5 : Int32).toInt = 5 := rfl
      have z_141 := x_tk_b (0 : Int32)
      have z_142 : AN M133 := by exfalso; omega
      refine to_popi (pc := 660) rw_0_660 (to_go (pc := 661) rw_0_661 ?_)
      have c_143 : M133.2.1 77 7 = (M.2.1 77 7) := (F_n F127 (show ¬ (77 = 77 ∧ (7 = 2 ∨ 7 = 29) ∨ 90 ≤ 77 ∧ 77 ≤ 93) by decide) (F_n F100 (show ¬ (6 ≤ 77 ∧ 77 ≤ 10) by decide) rfl))
      have t_144 : (M133.2.1 77 7).toInt = (M.2.1 77 7).toInt := congrArg Int32.toInt c_143
      have c_145 : M133.2.1 77 6 = (M.2.1 77 6) := (F_n F127 (show ¬ (77 = 77 ∧ (6 = 2 ∨ 6 = 29) ∨ 90 ≤ 77 ∧ 77 ≤ 93) by decide) (F_n F100 (show ¬ (6 ≤ 77 ∧ 77 ≤ 10) by decide) rfl))
      have t_146 : (M133.2.1 77 6).toInt = (M.2.1 77 6).toInt := congrArg Int32.toInt c_145
      have c_147 : M133.2.1 1 1 = (M.2.1 1 1) := (F_n F127 (show ¬ (1 = 77 ∧ (1 = 2 ∨ 1 = 29) ∨ 90 ≤ 1 ∧ 1 ≤ 93) by decide) (F_n F100 (show ¬ (6 ≤ 1 ∧ 1 ≤ 10) by decide) rfl))
      have t_148 : (M133.2.1 1 1).toInt = (M.2.1 1 1).toInt := congrArg Int32.toInt c_147
      have c_149 : M133.2.1 77 1 = (M.2.1 77 1) := (F_n F127 (show ¬ (77 = 77 ∧ (1 = 2 ∨ 1 = 29) ∨ 90 ≤ 77 ∧ 77 ≤ 93) by decide) (F_n F100 (show ¬ (6 ≤ 77 ∧ 77 ≤ 10) by decide) rfl))
      have t_150 : (M133.2.1 77 1).toInt = (M.2.1 77 1).toInt := congrArg Int32.toInt c_149
      have c_151 : M133.2.1 0 12 = (M.2.1 0 12) := (F_n F127 (show ¬ (0 = 77 ∧ (12 = 2 ∨ 12 = 29) ∨ 90 ≤ 0 ∧ 0 ≤ 93) by decide) (F_n F100 (show ¬ (6 ≤ 0 ∧ 0 ≤ 10) by decide) rfl))
      have t_152 : (M133.2.1 0 12).toInt = (M.2.1 0 12).toInt := congrArg Int32.toInt c_151
      have c_153 : M133.2.1 77 28 = (M.2.1 77 28) := (F_n F127 (show ¬ (77 = 77 ∧ (28 = 2 ∨ 28 = 29) ∨ 90 ≤ 77 ∧ 77 ≤ 93) by decide) c_122)
      have t_154 : (M133.2.1 77 28).toInt = (M.2.1 77 28).toInt := congrArg Int32.toInt c_153
      have c_155 : M133.2.1 17 4 = (M.2.1 17 4) := (F_n F127 (show ¬ (17 = 77 ∧ (4 = 2 ∨ 4 = 29) ∨ 90 ≤ 17 ∧ 17 ≤ 93) by decide) (F_n F100 (show ¬ (6 ≤ 17 ∧ 17 ≤ 10) by decide) rfl))
      have t_156 : (M133.2.1 17 4).toInt = (M.2.1 17 4).toInt := congrArg Int32.toInt c_155
      have c_157 : M133.2.1 77 41 = (M.2.1 77 41) := (F_n F127 (show ¬ (77 = 77 ∧ (41 = 2 ∨ 41 = 29) ∨ 90 ≤ 77 ∧ 77 ≤ 93) by decide) (F_n F100 (show ¬ (6 ≤ 77 ∧ 77 ≤ 10) by decide) rfl))
      have t_158 : (M133.2.1 77 41).toInt = (M.2.1 77 41).toInt := congrArg Int32.toInt c_157
      have c_159 : M133.2.1 6 0 = (M108.2.1 6 0) := (F_n F127 (show ¬ (6 = 77 ∧ (0 = 2 ∨ 0 = 29) ∨ 90 ≤ 6 ∧ 6 ≤ 93) by decide) rfl)
      have t_160 : (M133.2.1 6 0).toInt = (M108.2.1 6 0).toInt := congrArg Int32.toInt c_159
      have j_161 := (PI_f (tg_478 F127) p_103)
      have j_162 := (NI_f (tg_479 F127) p_102)
      have j_163 := (QI_f (tg_480 F127) p_104)
      have j_164 := (PQE_r F127.2.1 (PQE_r F100.2.1 jPQE))
      have j_165 := (FA_f (tg_481 F127) (FA_f (tg_476 F100) jFA))
      have j_166 := (WC_f (tg_482 F127) (WC_f (tg_483 F100) jWC))
      have j_167 := (PS_f (tg_484 F127) (PS_f (tg_485 F100) jPS))
      have j_168 := (KQ_f (tg_486 F127) (KQ_f (tg_487 F100) jKQ))
      have j_169 := (TP_f (tg_488 F127) (TP_f (tg_489 F100) jTP))
      have j_170 := (W9_f (tg_490 F127) (W9_f (tg_491 F100) jW9))
      have j_171 := (NE_r F127.2.1 (NE_r F100.2.1 jNE))
      have j_172 := (W8_f (tg_492 F127) (W8_f (tg_493 F100) jW8))
      exact h M133 (u5) (u6) ⟨⟨⟨⟨⟨⟨⟨⟨hG128, ⟨j_161, j_162, j_163, j_164⟩, ⟨j_165, j_166, p_129, j_167, j_168⟩, by omega, by omega⟩, j_169, j_170⟩, j_171, by omega⟩, AN_a z_142⟩, by omega⟩, j_172⟩, by omega⟩, z_142⟩ (by omega) (by omega)
    · refine to_c (pc := 652) rw_0_652 (x := (1 : Int32)) rfl rfl (to_go (pc := 653) rw_0_653 (s_v (pc := 657) rw_0_657 (dp0 hd (by decide)) (ls0 := [.ref 77, .int v11, .int v15, .int (1 : Int32)]) rfl (Nat.le_of_ble_eq_true rfl) (Nat.le_of_ble_eq_true rfl) rfl (to_rc rfl rfl rfl (g_o hG101 rfl)) rfl ?_))
      have c_173 : M108.2.1 77 28 = (M.2.1 77 28) := (F_n F100 (show ¬ (6 ≤ 77 ∧ 77 ≤ 10) by decide) rfl)
      have t_174 : (M108.2.1 77 28).toInt = (M.2.1 77 28).toInt := congrArg Int32.toInt c_173
      have j_175 := (NJ_f (tg_475 F100) jNJ)
      have j_176 := (PLk_f (tg_477 F100) hs2.1)
      refine E_196 hX (dp1 hd (by decide)) hG101 (by omega) (by omega) j_175 j_176 (c := v11) (e := v15) (m := (1 : Int32)) (sg := sg) (fun r177 M184 hG179 F178 p_180 p_181 p_182 p_183 => ?_)
      have n_185 : M184.1.2.1 = M108.1.2.1 ∧ M184.1.2.2.1 = M108.1.2.2.1 := by rw [F178.1]; exact ⟨rfl, rfl⟩
      have b_187 := g_b hG179 (a := 77) (i := 29) (lo := 0) (hi := 150) rfl rfl
      have k_188 : (0 : Int32).toInt = 0 := rfl
      have k_189 : (2 : Int32).toInt = 2 := rfl
      have k_190 : (3 : Int32).toInt = 3 := rfl
      have k_191 : (4 : Int32).toInt = 4 := rfl
      have k_192 : (5 : Int32).toInt = 5 := rfl
      have z_193 := x_tk_b (1 : Int32)
      have z_194 := AN_n hpz98 hpqz98 hs1 hs2 hn1 hn2 hn3 hn4 hn5 F100 (fun a i z => show ¬ (6 ≤ a ∧ a ≤ 10) by omega) F178 (fun a i z => show ¬ (a = 77 ∧ (i = 2 ∨ i = 29) ∨ 90 ≤ a ∧ a ≤ 93) by omega) p_107 p_183 (by omega) (by omega) (by omega) (by omega) (fun z9 => ⟨fun z => by omega, fun z => by omega, fun z => by omega, fun z => by omega, fun z => by omega⟩)
      refine to_popi (pc := 660) rw_0_660 (to_go (pc := 661) rw_0_661 ?_)
      have c_195 : M184.2.1 77 7 = (M.2.1 77 7) := (F_n F178 (show ¬ (77 = 77 ∧ (7 = 2 ∨ 7 = 29) ∨ 90 ≤ 77 ∧ 77 ≤ 93) by decide) (F_n F100 (show ¬ (6 ≤ 77 ∧ 77 ≤ 10) by decide) rfl))
      have t_196 : (M184.2.1 77 7).toInt = (M.2.1 77 7).toInt := congrArg Int32.toInt c_195
      have c_197 : M184.2.1 77 6 = (M.2.1 77 6) := (F_n F178 (show ¬ (77 = 77 ∧ (6 = 2 ∨ 6 = 29) ∨ 90 ≤ 77 ∧ 77 ≤ 93) by decide) (F_n F100 (show ¬ (6 ≤ 77 ∧ 77 ≤ 10) by decide) rfl))
      have t_198 : (M184.2.1 77 6).toInt = (M.2.1 77 6).toInt := congrArg Int32.toInt c_197
      have c_199 : M184.2.1 1 1 = (M.2.1 1 1) := (F_n F178 (show ¬ (1 = 77 ∧ (1 = 2 ∨ 1 = 29) ∨ 90 ≤ 1 ∧ 1 ≤ 93) by decide) (F_n F100 (show ¬ (6 ≤ 1 ∧ 1 ≤ 10) by decide) rfl))
      have t_200 : (M184.2.1 1 1).toInt = (M.2.1 1 1).toInt := congrArg Int32.toInt c_199
      have c_201 : M184.2.1 77 1 = (M.2.1 77 1) := (F_n F178 (show ¬ (77 = 77 ∧ (1 = 2 ∨ 1 = 29) ∨ 90 ≤ 77 ∧ 77 ≤ 93) by decide) (F_n F100 (show ¬ (6 ≤ 77 ∧ 77 ≤ 10) by decide) rfl))
      have t_202 : (M184.2.1 77 1).toInt = (M.2.1 77 1).toInt := congrArg Int32.toInt c_201
      have c_203 : M184.2.1 0 12 = (M.2.1 0 12) := (F_n F178 (show ¬ (0 = 77 ∧ (12 = 2 ∨ 12 = 29) ∨ 90 ≤ 0 ∧ 0 ≤ 93) by decide) (F_n F100 (show ¬ (6 ≤ 0 ∧ 0 ≤ 10) by decide) rfl))
      have t_204 : (M184.2.1 0 12).toInt = (M.2.1 0 12).toInt := congrArg Int32.toInt c_203
      have c_205 : M184.2.1 77 28 = (M.2.1 77 28) := (F_n F178 (show ¬ (77 = 77 ∧ (28 = 2 ∨ 28 = 29) ∨ 90 ≤ 77 ∧ 77 ≤ 93) by decide) c_173)
      have t_206 : (M184.2.1 77 28).toInt = (M.2.1 77 28).toInt := congrArg Int32.toInt c_205
      have c_207 : M184.2.1 17 4 = (M.2.1 17 4) := (F_n F178 (show ¬ (17 = 77 ∧ (4 = 2 ∨ 4 = 29) ∨ 90 ≤ 17 ∧ 17 ≤ 93) by decide) (F_n F100 (show ¬ (6 ≤ 17 ∧ 17 ≤ 10) by decide) rfl))
      have t_208 : (M184.2.1 17 4).toInt = (M.2.1 17 4).toInt := congrArg Int32.toInt c_207
      have c_209 : M184.2.1 77 41 = (M.2.1 77 41) := (F_n F178 (show ¬ (77 = 77 ∧ (41 = 2 ∨ 41 = 29) ∨ 90 ≤ 77 ∧ 77 ≤ 93) by decide) (F_n F100 (show ¬ (6 ≤ 77 ∧ 77 ≤ 10) by decide) rfl))
      have t_210 : (M184.2.1 77 41).toInt = (M.2.1 77 41).toInt := congrArg Int32.toInt c_209
      have c_211 : M184.2.1 6 0 = (M108.2.1 6 0) := (F_n F178 (show ¬ (6 = 77 ∧ (0 = 2 ∨ 0 = 29) ∨ 90 ≤ 6 ∧ 6 ≤ 93) by decide) rfl)
      have t_212 : (M184.2.1 6 0).toInt = (M108.2.1 6 0).toInt := congrArg Int32.toInt c_211
      have j_213 := (PI_f (tg_478 F178) p_103)
      have j_214 := (NI_f (tg_479 F178) p_102)
      have j_215 := (QI_f (tg_480 F178) p_104)
      have j_216 := (PQE_r F178.2.1 (PQE_r F100.2.1 jPQE))
      have j_217 := (FA_f (tg_481 F178) (FA_f (tg_476 F100) jFA))
      have j_218 := (WC_f (tg_482 F178) (WC_f (tg_483 F100) jWC))
      have j_219 := (PS_f (tg_484 F178) (PS_f (tg_485 F100) jPS))
      have j_220 := (KQ_f (tg_486 F178) (KQ_f (tg_487 F100) jKQ))
      have j_221 := (TP_f (tg_488 F178) (TP_f (tg_489 F100) jTP))
      have j_222 := (W9_f (tg_490 F178) (W9_f (tg_491 F100) jW9))
      have j_223 := (NE_r F178.2.1 (NE_r F100.2.1 jNE))
      have j_224 := (W8_f (tg_492 F178) (W8_f (tg_493 F100) jW8))
      exact h M184 (u5) (u6) ⟨⟨⟨⟨⟨⟨⟨⟨hG179, ⟨j_213, j_214, j_215, j_216⟩, ⟨j_217, j_218, p_180, j_219, j_220⟩, by omega, by omega⟩, j_221, j_222⟩, j_223, by omega⟩, AN_a z_194⟩, by omega⟩, j_224⟩, by omega⟩, z_194⟩ (by omega) (by omega)
set_option maxRecDepth 4000 in
set_option maxHeartbeats 0 in
theorem LW_13 {X : mm_X} {d L : Nat} {M : mm_M} {Q : Option Value → mm_M → Prop} {i : Int32} {u5 u6 : Value} (hX : g_X X) (hW : g_W X) (hW2 : g_W2 X) (hL : (X 0).1 = L) (h3 : L ≤ 3072) (hd : 40 ≤ d) (hi : 0 ≤ i.toInt) (hi2 : i.toInt + 6 ≤ (L : Int)) (H : LI9 M) (h : ∀ (M1 : mm_M) (v5 v6 : Value), LI9 M1 → M1.1.2.1 ≤ M.1.2.1 + 1 → M1.1.2.2.1 ≤ M.1.2.2.1 + 6 → mm_T X d 0 1313 [.ref mm_ext, .ref 0, .ref 77, .ref 125, .int i, v5, v6] [] M1 Q) : mm_T X d 0 664 [.ref mm_ext, .ref 0, .ref 77, .ref 125, .int i, u5, u6] [] M Q := by
  obtain ⟨⟨⟨⟨⟨⟨⟨⟨hG, ⟨jPI, jNI, jQI, jPQE⟩, ⟨jFA, jWC, jNJ, jPS, jKQ⟩, jJ, jE⟩, jTP, jW9⟩, jNE, jCC⟩, -⟩, jOV⟩, jW8⟩, jNN⟩, jAN⟩ := H
  have b_1 := g_b hG (a := 77) (i := 7) (lo := 0) (hi := 500) rfl rfl
  have b_2 := g_b hG (a := 77) (i := 6) (lo := 0) (hi := 500) rfl rfl
  have b_3 := g_b hG (a := 1) (i := 1) (lo := 0) (hi := 500) rfl rfl
  have b_4 := g_b hG (a := 77) (i := 1) (lo := 0) (hi := 500) rfl rfl
  have b_5 := g_b hG (a := 0) (i := 12) (lo := 0) (hi := 30) rfl rfl
  have b_6 := g_b hG (a := 77) (i := 28) (lo := 0) (hi := 30) rfl rfl
  have b_7 := g_b hG (a := 6) (i := 0) (lo := 0) (hi := 150) rfl rfl
  have b_8 := g_b hG (a := 77) (i := 29) (lo := 0) (hi := 150) rfl rfl
  refine to_an (pc := 664) rw_0_664 rfl (to_an (pc := 665) rw_0_665 rfl (to_i (pc := 666) rw_0_666 rfl (to_c (pc := 668) rw_0_668 (x := (1 : Int32)) rfl rfl (s_add (pc := 669) rw_0_669 (A := i.toInt) (B := 1) rfl rfl (by omega) (fun v9 e10 => s_x0 (pc := 670) rw_0_670 hL (A := v9.toInt) rfl (by omega) (by omega) (fun v11 e12 => to_an (pc := 671) rw_0_671 rfl (to_i (pc := 672) rw_0_672 rfl (to_c (pc := 674) rw_0_674 (x := (2 : Int32)) rfl rfl (s_add (pc := 675) rw_0_675 (A := i.toInt) (B := 2) rfl rfl (by omega) (fun v13 e14 => s_x0 (pc := 676) rw_0_676 hL (A := v13.toInt) rfl (by omega) (by omega) (fun v15 e16 => s_v (pc := 677) rw_0_677 (dp0 hd (by decide)) (ls0 := [.ref 0, .int v11, .int v15]) rfl (Nat.le_of_ble_eq_true rfl) (Nat.le_of_ble_eq_true rfl) rfl (to_rc rfl rfl rfl (g_o hG rfl)) rfl ?_)))))))))))
  obtain ⟨pz17, pzz17, qz17, qzz17, hpz17, hpzz17, hqz17, hqzz17, hpqz17⟩ := id jPQE
  obtain ⟨sg, NN, nz, ca, hs1, hs2, hn1, hn2, hn3, hn4, hn5⟩ := AN_u jAN hpqz17
  refine E_122 hX (dp1 hd (by decide)) hG hpz17 hpzz17 hqz17 hqzz17 hpqz17 jNI jPI jQI hs1.1 (w := v11) (b := v15) (sg := sg) (p := pz17) (pz := pzz17) (q := qz17) (qz := qzz17) (fun r18 M27 hG20 F19 p_21 p_22 p_23 p_24 p_25 p_26 => ?_)
  have n_28 : M27.1.2.1 = M.1.2.1 ∧ M27.1.2.2.1 = M.1.2.2.1 := by rw [F19.1]; exact ⟨rfl, rfl⟩
  have b_30 := g_b hG20 (a := 6) (i := 0) (lo := 0) (hi := 150) rfl rfl
  have c_31 : M27.2.1 77 29 = (M.2.1 77 29) := (F_n F19 (show ¬ (6 ≤ 77 ∧ 77 ≤ 10) by decide) rfl)
  have t_32 : (M27.2.1 77 29).toInt = (M.2.1 77 29).toInt := congrArg Int32.toInt c_31
  refine to_popi (pc := 680) rw_0_680 (to_an (pc := 681) rw_0_681 rfl (to_an (pc := 682) rw_0_682 rfl (to_i (pc := 683) rw_0_683 rfl (to_c (pc := 685) rw_0_685 (x := (1 : Int32)) rfl rfl (s_addk (pc := 686) rw_0_686 (A := i.toInt) (B := 1) rfl rfl (by omega) (v := v9) e10 (s_x0k (pc := 687) rw_0_687 hL (A := v9.toInt) rfl (by omega) (by omega) (v := v11) e12 (to_an (pc := 688) rw_0_688 rfl (to_i (pc := 689) rw_0_689 rfl (to_c (pc := 691) rw_0_691 (x := (2 : Int32)) rfl rfl (s_addk (pc := 692) rw_0_692 (A := i.toInt) (B := 2) rfl rfl (by omega) (v := v13) e14 (s_x0k (pc := 693) rw_0_693 hL (A := v13.toInt) rfl (by omega) (by omega) (v := v15) e16 ?_)))))))))))
  refine s_v (pc := 694) rw_0_694 (dp0 hd (by decide)) (ls0 := [.ref 77, .int v11, .int v15]) rfl (Nat.le_of_ble_eq_true rfl) (Nat.le_of_ble_eq_true rfl) rfl (to_rc rfl rfl rfl (g_o hG20 rfl)) rfl ?_
  have j_37 := (NJ_f (tg_475 F19) jNJ)
  have j_38 := (PLk_f (tg_477 F19) hs2.1)
  refine E_198 hX (dp1 hd (by decide)) hG20 j_37 j_38 (w := v11) (b := v15) (sg := sg) (fun r39 M46 hG41 F40 p_42 p_43 p_44 p_45 => ?_)
  have n_47 : M46.1.2.1 = M27.1.2.1 ∧ M46.1.2.2.1 = M27.1.2.2.1 := by rw [F40.1]; exact ⟨rfl, rfl⟩
  have b_49 := g_b hG41 (a := 77) (i := 29) (lo := 0) (hi := 150) rfl rfl
  have k_50 : (0 : Int32).toInt = 0 := rfl
  have k_51 : (1 : Int32).toInt = 1 := rfl
  have k_52 : (2 : Int32).toInt = 2 := rfl
  have k_53 : (3 : Int32).toInt = 3 := rfl
  have k_54 : (4 : Int32).toInt = 4 := rfl
  have k_55 : (5 : Int32).toInt = 5 := rfl
  have z_56 := AN_n hpz17 hpqz17 hs1 hs2 hn1 hn2 hn3 hn4 hn5 F19 (fun a i z => show ¬ (6 ≤ a ∧ a ≤ 10) by omega) F40 (fun a i z => show ¬ (a = 77 ∧ (i = 2 ∨ i = 29) ∨ 90 ≤ a ∧ a ≤ 93) by omega) p_26 p_45 (by omega) (by omega) (by omega) (by omega) (fun z9 => ⟨fun z => by omega, fun z => by omega, fun z => by omega, fun z => by omega, fun z => by omega⟩)
  refine to_popi (pc := 697) rw_0_697 (to_go (pc := 698) rw_0_698 ?_)
  have c_57 : M46.2.1 77 7 = (M.2.1 77 7) := (F_n F40 (show ¬ (77 = 77 ∧ (7 = 2 ∨ 7 = 29) ∨ 90 ≤ 77 ∧ 77 ≤ 93) by decide) (F_n F19 (show ¬ (6 ≤ 77 ∧ 77 ≤ 10) by decide) rfl))
  have t_58 : (M46.2.1 77 7).toInt = (M.2.1 77 7).toInt := congrArg Int32.toInt c_57
  have c_59 : M46.2.1 77 6 = (M.2.1 77 6) := (F_n F40 (show ¬ (77 = 77 ∧ (6 = 2 ∨ 6 = 29) ∨ 90 ≤ 77 ∧ 77 ≤ 93) by decide) (F_n F19 (show ¬ (6 ≤ 77 ∧ 77 ≤ 10) by decide) rfl))
  have t_60 : (M46.2.1 77 6).toInt = (M.2.1 77 6).toInt := congrArg Int32.toInt c_59
  have c_61 : M46.2.1 1 1 = (M.2.1 1 1) := (F_n F40 (show ¬ (1 = 77 ∧ (1 = 2 ∨ 1 = 29) ∨ 90 ≤ 1 ∧ 1 ≤ 93) by decide) (F_n F19 (show ¬ (6 ≤ 1 ∧ 1 ≤ 10) by decide) rfl))
  have t_62 : (M46.2.1 1 1).toInt = (M.2.1 1 1).toInt := congrArg Int32.toInt c_61
  have c_63 : M46.2.1 77 1 = (M.2.1 77 1) := (F_n F40 (show ¬ (77 = 77 ∧ (1 = 2 ∨ 1 = 29) ∨ 90 ≤ 77 ∧ 77 ≤ 93) by decide) (F_n F19 (show ¬ (6 ≤ 77 ∧ 77 ≤ 10) by decide) rfl))
  have t_64 : (M46.2.1 77 1).toInt = (M.2.1 77 1).toInt := congrArg Int32.toInt c_63
  have c_65 : M46.2.1 0 12 = (M.2.1 0 12) := (F_n F40 (show ¬ (0 = 77 ∧ (12 = 2 ∨ 12 = 29) ∨ 90 ≤ 0 ∧ 0 ≤ 93) by decide) (F_n F19 (show ¬ (6 ≤ 0 ∧ 0 ≤ 10) by decide) rfl))
  have t_66 : (M46.2.1 0 12).toInt = (M.2.1 0 12).toInt := congrArg Int32.toInt c_65
  have c_67 : M46.2.1 77 28 = (M.2.1 77 28) := (F_n F40 (show ¬ (77 = 77 ∧ (28 = 2 ∨ 28 = 29) ∨ 90 ≤ 77 ∧ 77 ≤ 93) by decide) (F_n F19 (show ¬ (6 ≤ 77 ∧ 77 ≤ 10) by decide) rfl))
  have t_68 : (M46.2.1 77 28).toInt = (M.2.1 77 28).toInt := congrArg Int32.toInt c_67
  have c_69 : M46.2.1 17 4 = (M.2.1 17 4) := (F_n F40 (show ¬ (17 = 77 ∧ (4 = 2 ∨ 4 = 29) ∨ 90 ≤ 17 ∧ 17 ≤ 93) by decide) (F_n F19 (show ¬ (6 ≤ 17 ∧ 17 ≤ 10) by decide) rfl))
  have t_70 : (M46.2.1 17 4).toInt = (M.2.1 17 4).toInt := congrArg Int32.toInt c_69
  have c_71 : M46.2.1 77 41 = (M.2.1 77 41) := (F_n F40 (show ¬ (77 = 77 ∧ (41 = 2 ∨ 41 = 29) ∨ 90 ≤ 77 ∧ 77 ≤ 93) by decide) (F_n F19 (show ¬ (6 ≤ 77 ∧ 77 ≤ 10) by decide) rfl))
  have t_72 : (M46.2.1 77 41).toInt = (M.2.1 77 41).toInt := congrArg Int32.toInt c_71
  have c_73 : M46.2.1 6 0 = (M27.2.1 6 0) := (F_n F40 (show ¬ (6 = 77 ∧ (0 = 2 ∨ 0 = 29) ∨ 90 ≤ 6 ∧ 6 ≤ 93) by decide) rfl)
  have t_74 : (M46.2.1 6 0).toInt = (M27.2.1 6 0).toInt := congrArg Int32.toInt c_73
  have j_75 := (PI_f (tg_478 F40) p_22)
  have j_76 := (NI_f (tg_479 F40) p_21)
  have j_77 := (QI_f (tg_480 F40) p_23)
  have j_78 := (PQE_r F40.2.1 (PQE_r F19.2.1 jPQE))
  have j_79 := (FA_f (tg_481 F40) (FA_f (tg_476 F19) jFA))
  have j_80 := (WC_f (tg_482 F40) (WC_f (tg_483 F19) jWC))
  have j_81 := (PS_f (tg_484 F40) (PS_f (tg_485 F19) jPS))
  have j_82 := (KQ_f (tg_486 F40) (KQ_f (tg_487 F19) jKQ))
  have j_83 := (TP_f (tg_488 F40) (TP_f (tg_489 F19) jTP))
  have j_84 := (W9_f (tg_490 F40) (W9_f (tg_491 F19) jW9))
  have j_85 := (NE_r F40.2.1 (NE_r F19.2.1 jNE))
  have j_86 := (W8_f (tg_492 F40) (W8_f (tg_493 F19) jW8))
  exact h M46 (u5) (u6) ⟨⟨⟨⟨⟨⟨⟨⟨hG41, ⟨j_75, j_76, j_77, j_78⟩, ⟨j_79, j_80, p_42, j_81, j_82⟩, by omega, by omega⟩, j_83, j_84⟩, j_85, by omega⟩, AN_a z_56⟩, by omega⟩, j_86⟩, by omega⟩, z_56⟩ (by omega) (by omega)
set_option maxRecDepth 4000 in
set_option maxHeartbeats 0 in
theorem LW_14 {X : mm_X} {d L : Nat} {M : mm_M} {Q : Option Value → mm_M → Prop} {i : Int32} {u5 u6 : Value} (hX : g_X X) (hW : g_W X) (hW2 : g_W2 X) (hL : (X 0).1 = L) (h3 : L ≤ 3072) (hd : 40 ≤ d) (hi : 0 ≤ i.toInt) (hi2 : i.toInt + 6 ≤ (L : Int)) (H : LI9 M) (h : ∀ (M1 : mm_M) (v5 v6 : Value), LI9 M1 → M1.1.2.1 ≤ M.1.2.1 + 1 → M1.1.2.2.1 ≤ M.1.2.2.1 + 6 → mm_T X d 0 1313 [.ref mm_ext, .ref 0, .ref 77, .ref 125, .int i, v5, v6] [] M1 Q) : mm_T X d 0 701 [.ref mm_ext, .ref 0, .ref 77, .ref 125, .int i, u5, u6] [] M Q := by
  obtain ⟨⟨⟨⟨⟨⟨⟨⟨hG, ⟨jPI, jNI, jQI, jPQE⟩, ⟨jFA, jWC, jNJ, jPS, jKQ⟩, jJ, jE⟩, jTP, jW9⟩, jNE, jCC⟩, -⟩, jOV⟩, jW8⟩, jNN⟩, jAN⟩ := H
  have b_1 := g_b hG (a := 77) (i := 7) (lo := 0) (hi := 500) rfl rfl
  have b_2 := g_b hG (a := 77) (i := 6) (lo := 0) (hi := 500) rfl rfl
  have b_3 := g_b hG (a := 1) (i := 1) (lo := 0) (hi := 500) rfl rfl
  have b_4 := g_b hG (a := 77) (i := 1) (lo := 0) (hi := 500) rfl rfl
  have b_5 := g_b hG (a := 0) (i := 12) (lo := 0) (hi := 30) rfl rfl
  have b_6 := g_b hG (a := 77) (i := 28) (lo := 0) (hi := 30) rfl rfl
  have b_7 := g_b hG (a := 6) (i := 0) (lo := 0) (hi := 150) rfl rfl
  have b_8 := g_b hG (a := 77) (i := 29) (lo := 0) (hi := 150) rfl rfl
  refine to_an (pc := 701) rw_0_701 rfl (to_an (pc := 702) rw_0_702 rfl (to_i (pc := 703) rw_0_703 rfl (to_c (pc := 705) rw_0_705 (x := (1 : Int32)) rfl rfl (s_add (pc := 706) rw_0_706 (A := i.toInt) (B := 1) rfl rfl (by omega) (fun v9 e10 => s_x0 (pc := 707) rw_0_707 hL (A := v9.toInt) rfl (by omega) (by omega) (fun v11 e12 => s_v (pc := 708) rw_0_708 (dp0 hd (by decide)) (ls0 := [.ref 0, .int v11]) rfl (Nat.le_of_ble_eq_true rfl) (Nat.le_of_ble_eq_true rfl) rfl (to_rc rfl rfl rfl (g_o hG rfl)) rfl ?_))))))
  obtain ⟨pz13, pzz13, qz13, qzz13, hpz13, hpzz13, hqz13, hqzz13, hpqz13⟩ := id jPQE
  obtain ⟨sg, NN, nz, ca, hs1, hs2, hn1, hn2, hn3, hn4, hn5⟩ := AN_u jAN hpqz13
  refine E_123 hX (dp1 hd (by decide)) hG hpz13 hpzz13 hqz13 hqzz13 hpqz13 jNI jPI jQI hs1.1 (n := v11) (sg := sg) (p := pz13) (pz := pzz13) (q := qz13) (qz := qzz13) (fun r14 M23 hG16 F15 p_17 p_18 p_19 p_20 p_21 p_22 => ?_)
  have n_24 : M23.1.2.1 = M.1.2.1 ∧ M23.1.2.2.1 = M.1.2.2.1 := by rw [F15.1]; exact ⟨rfl, rfl⟩
  have b_26 := g_b hG16 (a := 6) (i := 0) (lo := 0) (hi := 150) rfl rfl
  have c_27 : M23.2.1 77 29 = (M.2.1 77 29) := (F_n F15 (show ¬ (6 ≤ 77 ∧ 77 ≤ 10) by decide) rfl)
  have t_28 : (M23.2.1 77 29).toInt = (M.2.1 77 29).toInt := congrArg Int32.toInt c_27
  refine to_an (pc := 711) rw_0_711 rfl (to_an (pc := 712) rw_0_712 rfl (to_i (pc := 713) rw_0_713 rfl (to_c (pc := 715) rw_0_715 (x := (1 : Int32)) rfl rfl (s_addk (pc := 716) rw_0_716 (A := i.toInt) (B := 1) rfl rfl (by omega) (v := v9) e10 (s_x0k (pc := 717) rw_0_717 hL (A := v9.toInt) rfl (by omega) (by omega) (v := v11) e12 (s_v (pc := 718) rw_0_718 (dp0 hd (by decide)) (ls0 := [.ref 77, .int v11]) rfl (Nat.le_of_ble_eq_true rfl) (Nat.le_of_ble_eq_true rfl) rfl (to_rc rfl rfl rfl (g_o hG16 rfl)) rfl ?_))))))
  have j_31 := (NJ_f (tg_475 F15) jNJ)
  have j_32 := (PLk_f (tg_477 F15) hs2.1)
  refine E_199 hX (dp1 hd (by decide)) hG16 j_31 j_32 (n := v11) (sg := sg) (fun r33 M40 hG35 F34 p_36 p_37 p_38 p_39 => ?_)
  have n_41 : M40.1.2.1 = M23.1.2.1 ∧ M40.1.2.2.1 = M23.1.2.2.1 := by rw [F34.1]; exact ⟨rfl, rfl⟩
  have b_43 := g_b hG35 (a := 77) (i := 29) (lo := 0) (hi := 150) rfl rfl
  have k_44 : (0 : Int32).toInt = 0 := rfl
  have k_45 : (1 : Int32).toInt = 1 := rfl
  have k_46 : (2 : Int32).toInt = 2 := rfl
  have k_47 : (3 : Int32).toInt = 3 := rfl
  have k_48 : (4 : Int32).toInt = 4 := rfl
  have k_49 : (5 : Int32).toInt = 5 := rfl
  have z_50 := AN_n hpz13 hpqz13 hs1 hs2 hn1 hn2 hn3 hn4 hn5 F15 (fun a i z => show ¬ (6 ≤ a ∧ a ≤ 10) by omega) F34 (fun a i z => show ¬ (a = 77 ∧ (i = 2 ∨ i = 29) ∨ 90 ≤ a ∧ a ≤ 93) by omega) p_22 p_39 (by omega) (by omega) (by omega) (by omega) (fun z9 => ⟨fun z => by omega, fun z => by omega, fun z => by omega, fun z => by omega, fun z => by omega⟩)
  refine b_ceq (pc := 721) rw_0_721 (A := r14.toInt) (B := r33.toInt) rfl rfl (fun h51 => ?_) (fun h51 => ?_)
  · have c_52 : M40.2.1 77 7 = (M.2.1 77 7) := (F_n F34 (show ¬ (77 = 77 ∧ (7 = 2 ∨ 7 = 29) ∨ 90 ≤ 77 ∧ 77 ≤ 93) by decide) (F_n F15 (show ¬ (6 ≤ 77 ∧ 77 ≤ 10) by decide) rfl))
    have t_53 : (M40.2.1 77 7).toInt = (M.2.1 77 7).toInt := congrArg Int32.toInt c_52
    have c_54 : M40.2.1 77 6 = (M.2.1 77 6) := (F_n F34 (show ¬ (77 = 77 ∧ (6 = 2 ∨ 6 = 29) ∨ 90 ≤ 77 ∧ 77 ≤ 93) by decide) (F_n F15 (show ¬ (6 ≤ 77 ∧ 77 ≤ 10) by decide) rfl))
    have t_55 : (M40.2.1 77 6).toInt = (M.2.1 77 6).toInt := congrArg Int32.toInt c_54
    have c_56 : M40.2.1 1 1 = (M.2.1 1 1) := (F_n F34 (show ¬ (1 = 77 ∧ (1 = 2 ∨ 1 = 29) ∨ 90 ≤ 1 ∧ 1 ≤ 93) by decide) (F_n F15 (show ¬ (6 ≤ 1 ∧ 1 ≤ 10) by decide) rfl))
    have t_57 : (M40.2.1 1 1).toInt = (M.2.1 1 1).toInt := congrArg Int32.toInt c_56
    have c_58 : M40.2.1 77 1 = (M.2.1 77 1) := (F_n F34 (show ¬ (77 = 77 ∧ (1 = 2 ∨ 1 = 29) ∨ 90 ≤ 77 ∧ 77 ≤ 93) by decide) (F_n F15 (show ¬ (6 ≤ 77 ∧ 77 ≤ 10) by decide) rfl))
    have t_59 : (M40.2.1 77 1).toInt = (M.2.1 77 1).toInt := congrArg Int32.toInt c_58
    have c_60 : M40.2.1 0 12 = (M.2.1 0 12) := (F_n F34 (show ¬ (0 = 77 ∧ (12 = 2 ∨ 12 = 29) ∨ 90 ≤ 0 ∧ 0 ≤ 93) by decide) (F_n F15 (show ¬ (6 ≤ 0 ∧ 0 ≤ 10) by decide) rfl))
    have t_61 : (M40.2.1 0 12).toInt = (M.2.1 0 12).toInt := congrArg Int32.toInt c_60
    have c_62 : M40.2.1 77 28 = (M.2.1 77 28) := (F_n F34 (show ¬ (77 = 77 ∧ (28 = 2 ∨ 28 = 29) ∨ 90 ≤ 77 ∧ 77 ≤ 93) by decide) (F_n F15 (show ¬ (6 ≤ 77 ∧ 77 ≤ 10) by decide) rfl))
    have t_63 : (M40.2.1 77 28).toInt = (M.2.1 77 28).toInt := congrArg Int32.toInt c_62
    have c_64 : M40.2.1 17 4 = (M.2.1 17 4) := (F_n F34 (show ¬ (17 = 77 ∧ (4 = 2 ∨ 4 = 29) ∨ 90 ≤ 17 ∧ 17 ≤ 93) by decide) (F_n F15 (show ¬ (6 ≤ 17 ∧ 17 ≤ 10) by decide) rfl))
    have t_65 : (M40.2.1 17 4).toInt = (M.2.1 17 4).toInt := congrArg Int32.toInt c_64
    have c_66 : M40.2.1 77 41 = (M.2.1 77 41) := (F_n F34 (show ¬ (77 = 77 ∧ (41 = 2 ∨ 41 = 29) ∨ 90 ≤ 77 ∧ 77 ≤ 93) by decide) (F_n F15 (show ¬ (6 ≤ 77 ∧ 77 ≤ 10) by decide) rfl))
    have t_67 : (M40.2.1 77 41).toInt = (M.2.1 77 41).toInt := congrArg Int32.toInt c_66
    have c_68 : M40.2.1 6 0 = (M23.2.1 6 0) := (F_n F34 (show ¬ (6 = 77 ∧ (0 = 2 ∨ 0 = 29) ∨ 90 ≤ 6 ∧ 6 ≤ 93) by decide) rfl)
    have t_69 : (M40.2.1 6 0).toInt = (M23.2.1 6 0).toInt := congrArg Int32.toInt c_68
    have j_70 := (PI_f (tg_478 F34) p_18)
    have j_71 := (NI_f (tg_479 F34) p_17)
    have j_72 := (QI_f (tg_480 F34) p_19)
    have j_73 := (PQE_r F34.2.1 (PQE_r F15.2.1 jPQE))
    have j_74 := (FA_f (tg_481 F34) (FA_f (tg_476 F15) jFA))
    have j_75 := (WC_f (tg_482 F34) (WC_f (tg_483 F15) jWC))
    have j_76 := (PS_f (tg_484 F34) (PS_f (tg_485 F15) jPS))
    have j_77 := (KQ_f (tg_486 F34) (KQ_f (tg_487 F15) jKQ))
    have j_78 := (TP_f (tg_488 F34) (TP_f (tg_489 F15) jTP))
    have j_79 := (W9_f (tg_490 F34) (W9_f (tg_491 F15) jW9))
    have j_80 := (NE_r F34.2.1 (NE_r F15.2.1 jNE))
    have j_81 := (W8_f (tg_492 F34) (W8_f (tg_493 F15) jW8))
    exact h M40 (u5) (u6) ⟨⟨⟨⟨⟨⟨⟨⟨hG35, ⟨j_70, j_71, j_72, j_73⟩, ⟨j_74, j_75, p_36, j_76, j_77⟩, by omega, by omega⟩, j_78, j_79⟩, j_80, by omega⟩, AN_a z_50⟩, by omega⟩, j_81⟩, by omega⟩, z_50⟩ (by omega) (by omega)
  · exfalso; omega
