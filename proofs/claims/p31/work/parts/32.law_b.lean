theorem tg_638 {M M1 : mm_M} (F : FR (fun a i : Nat => a = 77 ∧ (i = 2 ∨ i = 41)) M M1) : ∀ a i : Nat, PI_r a → M1.2.1 a i = M.2.1 a i := fun a i z => F_n F (show ¬ (a = 77 ∧ (i = 2 ∨ i = 41)) by omega) rfl
theorem tg_639 {M M1 : mm_M} (F : FR (fun a i : Nat => a = 77 ∧ (i = 2 ∨ i = 41)) M M1) : ∀ a i : Nat, (7 ≤ a ∧ a ≤ 9) → M1.2.1 a i = M.2.1 a i := fun a i z => F_n F (show ¬ (a = 77 ∧ (i = 2 ∨ i = 41)) by omega) rfl
theorem tg_640 {M M1 : mm_M} (F : FR (fun a i : Nat => a = 77 ∧ (i = 2 ∨ i = 41)) M M1) : ∀ a i : Nat, (a = 68 ∨ a = 69 ∨ a = 73 ∨ a = 74) → M1.2.1 a i = M.2.1 a i := fun a i z => F_n F (show ¬ (a = 77 ∧ (i = 2 ∨ i = 41)) by omega) rfl
theorem tg_641 {M M1 : mm_M} (F : FR (fun a i : Nat => a = 77 ∧ (i = 2 ∨ i = 41)) M M1) : ∀ a i : Nat, (81 ≤ a ∧ a ≤ 84) → M1.2.1 a i = M.2.1 a i := fun a i z => F_n F (show ¬ (a = 77 ∧ (i = 2 ∨ i = 41)) by omega) rfl
theorem tg_642 {M M1 : mm_M} (F : FR (fun a i : Nat => a = 17) M M1) : ∀ a i : Nat, (81 ≤ a ∧ a ≤ 84) → M1.2.1 a i = M.2.1 a i := fun a i z => F_n F (show ¬ (a = 17) by omega) rfl
theorem tg_643 {M M1 : mm_M} (F : FR (fun a i : Nat => a = 77 ∧ (i = 2 ∨ i = 41)) M M1) : ∀ a i : Nat, WC_r a i → M1.2.1 a i = M.2.1 a i := fun a i z => F_n F (show ¬ (a = 77 ∧ (i = 2 ∨ i = 41)) by omega) rfl
theorem tg_644 {M M1 : mm_M} (F : FR (fun a i : Nat => a = 17) M M1) : ∀ a i : Nat, WC_r a i → M1.2.1 a i = M.2.1 a i := fun a i z => F_n F (show ¬ (a = 17) by omega) rfl
theorem tg_645 {M M1 : mm_M} (F : FR (fun a i : Nat => a = 77 ∧ (i = 2 ∨ i = 41)) M M1) : ∀ a i : Nat, NJ_r a i → M1.2.1 a i = M.2.1 a i := fun a i z => F_n F (show ¬ (a = 77 ∧ (i = 2 ∨ i = 41)) by omega) rfl
theorem tg_646 {M M1 : mm_M} (F : FR (fun a i : Nat => a = 17) M M1) : ∀ a i : Nat, NJ_r a i → M1.2.1 a i = M.2.1 a i := fun a i z => F_n F (show ¬ (a = 17) by omega) rfl
theorem tg_647 {M M1 : mm_M} (F : FR (fun a i : Nat => a = 77 ∧ (i = 2 ∨ i = 41)) M M1) : ∀ a i : Nat, (a = 100 ∨ a = 77 ∧ i = 28) → M1.2.1 a i = M.2.1 a i := fun a i z => F_n F (show ¬ (a = 77 ∧ (i = 2 ∨ i = 41)) by omega) rfl
theorem tg_648 {M M1 : mm_M} (F : FR (fun a i : Nat => a = 17) M M1) : ∀ a i : Nat, (a = 100 ∨ a = 77 ∧ i = 28) → M1.2.1 a i = M.2.1 a i := fun a i z => F_n F (show ¬ (a = 17) by omega) rfl
theorem tg_649 {M M1 : mm_M} (F : FR (fun a i : Nat => a = 77 ∧ (i = 2 ∨ i = 41)) M M1) : ∀ a i : Nat, KQ_r a i → M1.2.1 a i = M.2.1 a i := fun a i z => F_n F (show ¬ (a = 77 ∧ (i = 2 ∨ i = 41)) by omega) rfl
theorem tg_650 {M M1 : mm_M} (F : FR (fun a i : Nat => a = 17) M M1) : ∀ a i : Nat, KQ_r a i → M1.2.1 a i = M.2.1 a i := fun a i z => F_n F (show ¬ (a = 17) by omega) rfl
theorem tg_651 {M M1 : mm_M} (F : FR (fun a i : Nat => a = 77 ∧ (i = 2 ∨ i = 41)) M M1) : ∀ a i : Nat, (a = 1 ∧ i = 1 ∨ a = 2 ∨ a = 78) → M1.2.1 a i = M.2.1 a i := fun a i z => F_n F (show ¬ (a = 77 ∧ (i = 2 ∨ i = 41)) by omega) rfl
theorem tg_652 {M M1 : mm_M} (F : FR (fun a i : Nat => a = 17) M M1) : ∀ a i : Nat, (a = 1 ∧ i = 1 ∨ a = 2 ∨ a = 78) → M1.2.1 a i = M.2.1 a i := fun a i z => F_n F (show ¬ (a = 17) by omega) rfl
theorem tg_653 {M M1 : mm_M} (F : FR (fun a i : Nat => a = 77 ∧ (i = 2 ∨ i = 41)) M M1) : ∀ a i : Nat, a = 79 → M1.2.1 a i = M.2.1 a i := fun a i z => F_n F (show ¬ (a = 77 ∧ (i = 2 ∨ i = 41)) by omega) rfl
theorem tg_654 {M M1 : mm_M} (F : FR (fun a i : Nat => a = 17) M M1) : ∀ a i : Nat, a = 79 → M1.2.1 a i = M.2.1 a i := fun a i z => F_n F (show ¬ (a = 17) by omega) rfl
theorem tg_655 {M M1 : mm_M} (F : FR (fun a i : Nat => a = 77 ∧ (i = 2 ∨ i = 41)) M M1) : ∀ a i : Nat, 88 ≤ a ∧ a ≤ 89 → M1.2.1 a i = M.2.1 a i := fun a i z => F_n F (show ¬ (a = 77 ∧ (i = 2 ∨ i = 41)) by omega) rfl
theorem tg_656 {M M1 : mm_M} (F : FR (fun a i : Nat => a = 17) M M1) : ∀ a i : Nat, 88 ≤ a ∧ a ≤ 89 → M1.2.1 a i = M.2.1 a i := fun a i z => F_n F (show ¬ (a = 17) by omega) rfl
theorem tg_657 {M M1 : mm_M} (F : FR (fun a i : Nat => a = 77 ∧ (i = 2 ∨ i = 41) ∨ a = 99 ∨ a = 100) M M1) : ∀ a i : Nat, PI_r a → M1.2.1 a i = M.2.1 a i := fun a i z => F_n F (show ¬ (a = 77 ∧ (i = 2 ∨ i = 41) ∨ a = 99 ∨ a = 100) by omega) rfl
theorem tg_658 {M M1 : mm_M} (F : FR (fun a i : Nat => a = 77 ∧ (i = 2 ∨ i = 41) ∨ a = 99 ∨ a = 100) M M1) : ∀ a i : Nat, (7 ≤ a ∧ a ≤ 9) → M1.2.1 a i = M.2.1 a i := fun a i z => F_n F (show ¬ (a = 77 ∧ (i = 2 ∨ i = 41) ∨ a = 99 ∨ a = 100) by omega) rfl
theorem tg_659 {M M1 : mm_M} (F : FR (fun a i : Nat => a = 77 ∧ (i = 2 ∨ i = 41) ∨ a = 99 ∨ a = 100) M M1) : ∀ a i : Nat, (a = 68 ∨ a = 69 ∨ a = 73 ∨ a = 74) → M1.2.1 a i = M.2.1 a i := fun a i z => F_n F (show ¬ (a = 77 ∧ (i = 2 ∨ i = 41) ∨ a = 99 ∨ a = 100) by omega) rfl
theorem tg_660 {M M1 : mm_M} (F : FR (fun a i : Nat => a = 77 ∧ (i = 2 ∨ i = 41) ∨ a = 99 ∨ a = 100) M M1) : ∀ a i : Nat, (81 ≤ a ∧ a ≤ 84) → M1.2.1 a i = M.2.1 a i := fun a i z => F_n F (show ¬ (a = 77 ∧ (i = 2 ∨ i = 41) ∨ a = 99 ∨ a = 100) by omega) rfl
theorem tg_661 {M M1 : mm_M} (F : FR (fun a i : Nat => 17 ≤ a ∧ a ≤ 27) M M1) : ∀ a i : Nat, (81 ≤ a ∧ a ≤ 84) → M1.2.1 a i = M.2.1 a i := fun a i z => F_n F (show ¬ (17 ≤ a ∧ a ≤ 27) by omega) rfl
theorem tg_662 {M M1 : mm_M} (F : FR (fun a i : Nat => a = 77 ∧ (i = 2 ∨ i = 41) ∨ a = 99 ∨ a = 100) M M1) : ∀ a i : Nat, WC_r a i → M1.2.1 a i = M.2.1 a i := fun a i z => F_n F (show ¬ (a = 77 ∧ (i = 2 ∨ i = 41) ∨ a = 99 ∨ a = 100) by omega) rfl
theorem tg_663 {M M1 : mm_M} (F : FR (fun a i : Nat => 17 ≤ a ∧ a ≤ 27) M M1) : ∀ a i : Nat, WC_r a i → M1.2.1 a i = M.2.1 a i := fun a i z => F_n F (show ¬ (17 ≤ a ∧ a ≤ 27) by omega) rfl
theorem tg_664 {M M1 : mm_M} (F : FR (fun a i : Nat => a = 77 ∧ (i = 2 ∨ i = 41) ∨ a = 99 ∨ a = 100) M M1) : ∀ a i : Nat, NJ_r a i → M1.2.1 a i = M.2.1 a i := fun a i z => F_n F (show ¬ (a = 77 ∧ (i = 2 ∨ i = 41) ∨ a = 99 ∨ a = 100) by omega) rfl
theorem tg_665 {M M1 : mm_M} (F : FR (fun a i : Nat => 17 ≤ a ∧ a ≤ 27) M M1) : ∀ a i : Nat, NJ_r a i → M1.2.1 a i = M.2.1 a i := fun a i z => F_n F (show ¬ (17 ≤ a ∧ a ≤ 27) by omega) rfl
theorem tg_666 {M M1 : mm_M} (F : FR (fun a i : Nat => a = 77 ∧ (i = 2 ∨ i = 41) ∨ a = 99 ∨ a = 100) M M1) : ∀ a i : Nat, KQ_r a i → M1.2.1 a i = M.2.1 a i := fun a i z => F_n F (show ¬ (a = 77 ∧ (i = 2 ∨ i = 41) ∨ a = 99 ∨ a = 100) by omega) rfl
theorem tg_667 {M M1 : mm_M} (F : FR (fun a i : Nat => 17 ≤ a ∧ a ≤ 27) M M1) : ∀ a i : Nat, KQ_r a i → M1.2.1 a i = M.2.1 a i := fun a i z => F_n F (show ¬ (17 ≤ a ∧ a ≤ 27) by omega) rfl
theorem tg_668 {M M1 : mm_M} (F : FR (fun a i : Nat => a = 77 ∧ (i = 2 ∨ i = 41) ∨ a = 99 ∨ a = 100) M M1) : ∀ a i : Nat, (a = 1 ∧ i = 1 ∨ a = 2 ∨ a = 78) → M1.2.1 a i = M.2.1 a i := fun a i z => F_n F (show ¬ (a = 77 ∧ (i = 2 ∨ i = 41) ∨ a = 99 ∨ a = 100) by omega) rfl
theorem tg_669 {M M1 : mm_M} (F : FR (fun a i : Nat => 17 ≤ a ∧ a ≤ 27) M M1) : ∀ a i : Nat, (a = 1 ∧ i = 1 ∨ a = 2 ∨ a = 78) → M1.2.1 a i = M.2.1 a i := fun a i z => F_n F (show ¬ (17 ≤ a ∧ a ≤ 27) by omega) rfl
theorem tg_670 {M M1 : mm_M} (F : FR (fun a i : Nat => a = 77 ∧ (i = 2 ∨ i = 41) ∨ a = 99 ∨ a = 100) M M1) : ∀ a i : Nat, a = 79 → M1.2.1 a i = M.2.1 a i := fun a i z => F_n F (show ¬ (a = 77 ∧ (i = 2 ∨ i = 41) ∨ a = 99 ∨ a = 100) by omega) rfl
theorem tg_671 {M M1 : mm_M} (F : FR (fun a i : Nat => 17 ≤ a ∧ a ≤ 27) M M1) : ∀ a i : Nat, a = 79 → M1.2.1 a i = M.2.1 a i := fun a i z => F_n F (show ¬ (17 ≤ a ∧ a ≤ 27) by omega) rfl
theorem tg_672 {M M1 : mm_M} (F : FR (fun a i : Nat => a = 77 ∧ (i = 2 ∨ i = 41) ∨ a = 99 ∨ a = 100) M M1) : ∀ a i : Nat, 88 ≤ a ∧ a ≤ 89 → M1.2.1 a i = M.2.1 a i := fun a i z => F_n F (show ¬ (a = 77 ∧ (i = 2 ∨ i = 41) ∨ a = 99 ∨ a = 100) by omega) rfl
theorem tg_673 {M M1 : mm_M} (F : FR (fun a i : Nat => 17 ≤ a ∧ a ≤ 27) M M1) : ∀ a i : Nat, 88 ≤ a ∧ a ≤ 89 → M1.2.1 a i = M.2.1 a i := fun a i z => F_n F (show ¬ (17 ≤ a ∧ a ≤ 27) by omega) rfl
theorem tg_674 {M M1 : mm_M} (F : FR (fun a i : Nat => 11 ≤ a ∧ a ≤ 16 ∨ a = 71 ∨ a = 76) M M1) : ∀ a i : Nat, NJ_r a i → M1.2.1 a i = M.2.1 a i := fun a i z => F_n F (show ¬ (11 ≤ a ∧ a ≤ 16 ∨ a = 71 ∨ a = 76) by omega) rfl
theorem tg_675 {M M1 : mm_M} (F : FR (fun a i : Nat => 11 ≤ a ∧ a ≤ 16 ∨ a = 71 ∨ a = 76) M M1) : ∀ a i : Nat, KQ_r a i → M1.2.1 a i = M.2.1 a i := fun a i z => F_n F (show ¬ (11 ≤ a ∧ a ≤ 16 ∨ a = 71 ∨ a = 76) by omega) rfl
theorem tg_676 {M M1 : mm_M} (F : FR (fun a i : Nat => a = 77 ∧ i = 2 ∨ 94 ≤ a ∧ a ≤ 98 ∨ a = 117) M M1) : ∀ a i : Nat, PI_r a → M1.2.1 a i = M.2.1 a i := fun a i z => F_n F (show ¬ (a = 77 ∧ i = 2 ∨ 94 ≤ a ∧ a ≤ 98 ∨ a = 117) by omega) rfl
theorem tg_677 {M M1 : mm_M} (F : FR (fun a i : Nat => 11 ≤ a ∧ a ≤ 16 ∨ a = 71 ∨ a = 76) M M1) : ∀ a i : Nat, PI_r a → M1.2.1 a i = M.2.1 a i := fun a i z => F_n F (show ¬ (11 ≤ a ∧ a ≤ 16 ∨ a = 71 ∨ a = 76) by omega) rfl
theorem tg_678 {M M1 : mm_M} (F : FR (fun a i : Nat => a = 77 ∧ i = 2 ∨ 94 ≤ a ∧ a ≤ 98 ∨ a = 117) M M1) : ∀ a i : Nat, (7 ≤ a ∧ a ≤ 9) → M1.2.1 a i = M.2.1 a i := fun a i z => F_n F (show ¬ (a = 77 ∧ i = 2 ∨ 94 ≤ a ∧ a ≤ 98 ∨ a = 117) by omega) rfl
theorem tg_679 {M M1 : mm_M} (F : FR (fun a i : Nat => 11 ≤ a ∧ a ≤ 16 ∨ a = 71 ∨ a = 76) M M1) : ∀ a i : Nat, (7 ≤ a ∧ a ≤ 9) → M1.2.1 a i = M.2.1 a i := fun a i z => F_n F (show ¬ (11 ≤ a ∧ a ≤ 16 ∨ a = 71 ∨ a = 76) by omega) rfl
theorem tg_680 {M M1 : mm_M} (F : FR (fun a i : Nat => a = 77 ∧ i = 2 ∨ 94 ≤ a ∧ a ≤ 98 ∨ a = 117) M M1) : ∀ a i : Nat, (a = 68 ∨ a = 69 ∨ a = 73 ∨ a = 74) → M1.2.1 a i = M.2.1 a i := fun a i z => F_n F (show ¬ (a = 77 ∧ i = 2 ∨ 94 ≤ a ∧ a ≤ 98 ∨ a = 117) by omega) rfl
theorem tg_681 {M M1 : mm_M} (F : FR (fun a i : Nat => 11 ≤ a ∧ a ≤ 16 ∨ a = 71 ∨ a = 76) M M1) : ∀ a i : Nat, (a = 68 ∨ a = 69 ∨ a = 73 ∨ a = 74) → M1.2.1 a i = M.2.1 a i := fun a i z => F_n F (show ¬ (11 ≤ a ∧ a ≤ 16 ∨ a = 71 ∨ a = 76) by omega) rfl
theorem tg_682 {M M1 : mm_M} (F : FR (fun a i : Nat => a = 77 ∧ i = 2 ∨ 94 ≤ a ∧ a ≤ 98 ∨ a = 117) M M1) : ∀ a i : Nat, (81 ≤ a ∧ a ≤ 84) → M1.2.1 a i = M.2.1 a i := fun a i z => F_n F (show ¬ (a = 77 ∧ i = 2 ∨ 94 ≤ a ∧ a ≤ 98 ∨ a = 117) by omega) rfl
theorem tg_683 {M M1 : mm_M} (F : FR (fun a i : Nat => 11 ≤ a ∧ a ≤ 16 ∨ a = 71 ∨ a = 76) M M1) : ∀ a i : Nat, (81 ≤ a ∧ a ≤ 84) → M1.2.1 a i = M.2.1 a i := fun a i z => F_n F (show ¬ (11 ≤ a ∧ a ≤ 16 ∨ a = 71 ∨ a = 76) by omega) rfl
theorem tg_684 {M M1 : mm_M} (F : FR (fun a i : Nat => a = 77 ∧ i = 2 ∨ 94 ≤ a ∧ a ≤ 98 ∨ a = 117) M M1) : ∀ a i : Nat, WC_r a i → M1.2.1 a i = M.2.1 a i := fun a i z => F_n F (show ¬ (a = 77 ∧ i = 2 ∨ 94 ≤ a ∧ a ≤ 98 ∨ a = 117) by omega) rfl
theorem tg_685 {M M1 : mm_M} (F : FR (fun a i : Nat => 11 ≤ a ∧ a ≤ 16 ∨ a = 71 ∨ a = 76) M M1) : ∀ a i : Nat, WC_r a i → M1.2.1 a i = M.2.1 a i := fun a i z => F_n F (show ¬ (11 ≤ a ∧ a ≤ 16 ∨ a = 71 ∨ a = 76) by omega) rfl
theorem tg_686 {M M1 : mm_M} (F : FR (fun a i : Nat => a = 77 ∧ i = 2 ∨ 94 ≤ a ∧ a ≤ 98 ∨ a = 117) M M1) : ∀ a i : Nat, NJ_r a i → M1.2.1 a i = M.2.1 a i := fun a i z => F_n F (show ¬ (a = 77 ∧ i = 2 ∨ 94 ≤ a ∧ a ≤ 98 ∨ a = 117) by omega) rfl
theorem tg_687 {M M1 : mm_M} (F : FR (fun a i : Nat => a = 77 ∧ i = 2 ∨ 94 ≤ a ∧ a ≤ 98 ∨ a = 117) M M1) : ∀ a i : Nat, (a = 100 ∨ a = 77 ∧ i = 28) → M1.2.1 a i = M.2.1 a i := fun a i z => F_n F (show ¬ (a = 77 ∧ i = 2 ∨ 94 ≤ a ∧ a ≤ 98 ∨ a = 117) by omega) rfl
theorem tg_688 {M M1 : mm_M} (F : FR (fun a i : Nat => 11 ≤ a ∧ a ≤ 16 ∨ a = 71 ∨ a = 76) M M1) : ∀ a i : Nat, (a = 100 ∨ a = 77 ∧ i = 28) → M1.2.1 a i = M.2.1 a i := fun a i z => F_n F (show ¬ (11 ≤ a ∧ a ≤ 16 ∨ a = 71 ∨ a = 76) by omega) rfl
theorem tg_689 {M M1 : mm_M} (F : FR (fun a i : Nat => a = 77 ∧ i = 2 ∨ 94 ≤ a ∧ a ≤ 98 ∨ a = 117) M M1) : ∀ a i : Nat, KQ_r a i → M1.2.1 a i = M.2.1 a i := fun a i z => F_n F (show ¬ (a = 77 ∧ i = 2 ∨ 94 ≤ a ∧ a ≤ 98 ∨ a = 117) by omega) rfl
theorem tg_690 {M M1 : mm_M} (F : FR (fun a i : Nat => a = 77 ∧ i = 2 ∨ 94 ≤ a ∧ a ≤ 98 ∨ a = 117) M M1) : ∀ a i : Nat, (a = 1 ∧ i = 1 ∨ a = 2 ∨ a = 78) → M1.2.1 a i = M.2.1 a i := fun a i z => F_n F (show ¬ (a = 77 ∧ i = 2 ∨ 94 ≤ a ∧ a ≤ 98 ∨ a = 117) by omega) rfl
theorem tg_691 {M M1 : mm_M} (F : FR (fun a i : Nat => 11 ≤ a ∧ a ≤ 16 ∨ a = 71 ∨ a = 76) M M1) : ∀ a i : Nat, (a = 1 ∧ i = 1 ∨ a = 2 ∨ a = 78) → M1.2.1 a i = M.2.1 a i := fun a i z => F_n F (show ¬ (11 ≤ a ∧ a ≤ 16 ∨ a = 71 ∨ a = 76) by omega) rfl
theorem tg_692 {M M1 : mm_M} (F : FR (fun a i : Nat => a = 77 ∧ i = 2 ∨ 94 ≤ a ∧ a ≤ 98 ∨ a = 117) M M1) : ∀ a i : Nat, a = 79 → M1.2.1 a i = M.2.1 a i := fun a i z => F_n F (show ¬ (a = 77 ∧ i = 2 ∨ 94 ≤ a ∧ a ≤ 98 ∨ a = 117) by omega) rfl
theorem tg_693 {M M1 : mm_M} (F : FR (fun a i : Nat => 11 ≤ a ∧ a ≤ 16 ∨ a = 71 ∨ a = 76) M M1) : ∀ a i : Nat, a = 79 → M1.2.1 a i = M.2.1 a i := fun a i z => F_n F (show ¬ (11 ≤ a ∧ a ≤ 16 ∨ a = 71 ∨ a = 76) by omega) rfl
theorem tg_694 {M M1 : mm_M} (F : FR (fun a i : Nat => a = 77 ∧ i = 2 ∨ 94 ≤ a ∧ a ≤ 98 ∨ a = 117) M M1) : ∀ a i : Nat, 88 ≤ a ∧ a ≤ 89 → M1.2.1 a i = M.2.1 a i := fun a i z => F_n F (show ¬ (a = 77 ∧ i = 2 ∨ 94 ≤ a ∧ a ≤ 98 ∨ a = 117) by omega) rfl
theorem tg_695 {M M1 : mm_M} (F : FR (fun a i : Nat => 11 ≤ a ∧ a ≤ 16 ∨ a = 71 ∨ a = 76) M M1) : ∀ a i : Nat, 88 ≤ a ∧ a ≤ 89 → M1.2.1 a i = M.2.1 a i := fun a i z => F_n F (show ¬ (11 ≤ a ∧ a ≤ 16 ∨ a = 71 ∨ a = 76) by omega) rfl
theorem tg_696 {M M1 : mm_M} (F : FR (fun a i : Nat => a = 77 ∧ i = 2 ∨ 94 ≤ a ∧ a ≤ 98 ∨ a = 118) M M1) : ∀ a i : Nat, PI_r a → M1.2.1 a i = M.2.1 a i := fun a i z => F_n F (show ¬ (a = 77 ∧ i = 2 ∨ 94 ≤ a ∧ a ≤ 98 ∨ a = 118) by omega) rfl
theorem tg_697 {M M1 : mm_M} (F : FR (fun a i : Nat => a = 77 ∧ i = 2 ∨ 94 ≤ a ∧ a ≤ 98 ∨ a = 118) M M1) : ∀ a i : Nat, (7 ≤ a ∧ a ≤ 9) → M1.2.1 a i = M.2.1 a i := fun a i z => F_n F (show ¬ (a = 77 ∧ i = 2 ∨ 94 ≤ a ∧ a ≤ 98 ∨ a = 118) by omega) rfl
theorem tg_698 {M M1 : mm_M} (F : FR (fun a i : Nat => a = 77 ∧ i = 2 ∨ 94 ≤ a ∧ a ≤ 98 ∨ a = 118) M M1) : ∀ a i : Nat, (a = 68 ∨ a = 69 ∨ a = 73 ∨ a = 74) → M1.2.1 a i = M.2.1 a i := fun a i z => F_n F (show ¬ (a = 77 ∧ i = 2 ∨ 94 ≤ a ∧ a ≤ 98 ∨ a = 118) by omega) rfl
theorem tg_699 {M M1 : mm_M} (F : FR (fun a i : Nat => a = 77 ∧ i = 2 ∨ 94 ≤ a ∧ a ≤ 98 ∨ a = 118) M M1) : ∀ a i : Nat, (81 ≤ a ∧ a ≤ 84) → M1.2.1 a i = M.2.1 a i := fun a i z => F_n F (show ¬ (a = 77 ∧ i = 2 ∨ 94 ≤ a ∧ a ≤ 98 ∨ a = 118) by omega) rfl
theorem tg_700 {M M1 : mm_M} (F : FR (fun a i : Nat => a = 77 ∧ i = 2 ∨ 94 ≤ a ∧ a ≤ 98 ∨ a = 118) M M1) : ∀ a i : Nat, WC_r a i → M1.2.1 a i = M.2.1 a i := fun a i z => F_n F (show ¬ (a = 77 ∧ i = 2 ∨ 94 ≤ a ∧ a ≤ 98 ∨ a = 118) by omega) rfl
theorem tg_701 {M M1 : mm_M} (F : FR (fun a i : Nat => a = 77 ∧ i = 2 ∨ 94 ≤ a ∧ a ≤ 98 ∨ a = 118) M M1) : ∀ a i : Nat, NJ_r a i → M1.2.1 a i = M.2.1 a i := fun a i z => F_n F (show ¬ (a = 77 ∧ i = 2 ∨ 94 ≤ a ∧ a ≤ 98 ∨ a = 118) by omega) rfl
theorem tg_702 {M M1 : mm_M} (F : FR (fun a i : Nat => a = 77 ∧ i = 2 ∨ 94 ≤ a ∧ a ≤ 98 ∨ a = 118) M M1) : ∀ a i : Nat, (a = 100 ∨ a = 77 ∧ i = 28) → M1.2.1 a i = M.2.1 a i := fun a i z => F_n F (show ¬ (a = 77 ∧ i = 2 ∨ 94 ≤ a ∧ a ≤ 98 ∨ a = 118) by omega) rfl
theorem tg_703 {M M1 : mm_M} (F : FR (fun a i : Nat => a = 77 ∧ i = 2 ∨ 94 ≤ a ∧ a ≤ 98 ∨ a = 118) M M1) : ∀ a i : Nat, KQ_r a i → M1.2.1 a i = M.2.1 a i := fun a i z => F_n F (show ¬ (a = 77 ∧ i = 2 ∨ 94 ≤ a ∧ a ≤ 98 ∨ a = 118) by omega) rfl
theorem tg_704 {M M1 : mm_M} (F : FR (fun a i : Nat => a = 77 ∧ i = 2 ∨ 94 ≤ a ∧ a ≤ 98 ∨ a = 118) M M1) : ∀ a i : Nat, (a = 1 ∧ i = 1 ∨ a = 2 ∨ a = 78) → M1.2.1 a i = M.2.1 a i := fun a i z => F_n F (show ¬ (a = 77 ∧ i = 2 ∨ 94 ≤ a ∧ a ≤ 98 ∨ a = 118) by omega) rfl
theorem tg_705 {M M1 : mm_M} (F : FR (fun a i : Nat => a = 77 ∧ i = 2 ∨ 94 ≤ a ∧ a ≤ 98 ∨ a = 118) M M1) : ∀ a i : Nat, a = 79 → M1.2.1 a i = M.2.1 a i := fun a i z => F_n F (show ¬ (a = 77 ∧ i = 2 ∨ 94 ≤ a ∧ a ≤ 98 ∨ a = 118) by omega) rfl
theorem tg_706 {M M1 : mm_M} (F : FR (fun a i : Nat => a = 77 ∧ i = 2 ∨ 94 ≤ a ∧ a ≤ 98 ∨ a = 118) M M1) : ∀ a i : Nat, 88 ≤ a ∧ a ≤ 89 → M1.2.1 a i = M.2.1 a i := fun a i z => F_n F (show ¬ (a = 77 ∧ i = 2 ∨ 94 ≤ a ∧ a ≤ 98 ∨ a = 118) by omega) rfl
theorem tg_707 {M M1 : mm_M} (F : FR (fun a i : Nat => a = 77 ∧ i = 2 ∨ 94 ≤ a ∧ a ≤ 98 ∨ a = 119) M M1) : ∀ a i : Nat, PI_r a → M1.2.1 a i = M.2.1 a i := fun a i z => F_n F (show ¬ (a = 77 ∧ i = 2 ∨ 94 ≤ a ∧ a ≤ 98 ∨ a = 119) by omega) rfl
theorem tg_708 {M M1 : mm_M} (F : FR (fun a i : Nat => a = 77 ∧ i = 2 ∨ 94 ≤ a ∧ a ≤ 98 ∨ a = 119) M M1) : ∀ a i : Nat, (7 ≤ a ∧ a ≤ 9) → M1.2.1 a i = M.2.1 a i := fun a i z => F_n F (show ¬ (a = 77 ∧ i = 2 ∨ 94 ≤ a ∧ a ≤ 98 ∨ a = 119) by omega) rfl
theorem tg_709 {M M1 : mm_M} (F : FR (fun a i : Nat => a = 77 ∧ i = 2 ∨ 94 ≤ a ∧ a ≤ 98 ∨ a = 119) M M1) : ∀ a i : Nat, (a = 68 ∨ a = 69 ∨ a = 73 ∨ a = 74) → M1.2.1 a i = M.2.1 a i := fun a i z => F_n F (show ¬ (a = 77 ∧ i = 2 ∨ 94 ≤ a ∧ a ≤ 98 ∨ a = 119) by omega) rfl
theorem tg_710 {M M1 : mm_M} (F : FR (fun a i : Nat => a = 77 ∧ i = 2 ∨ 94 ≤ a ∧ a ≤ 98 ∨ a = 119) M M1) : ∀ a i : Nat, (81 ≤ a ∧ a ≤ 84) → M1.2.1 a i = M.2.1 a i := fun a i z => F_n F (show ¬ (a = 77 ∧ i = 2 ∨ 94 ≤ a ∧ a ≤ 98 ∨ a = 119) by omega) rfl
theorem tg_711 {M M1 : mm_M} (F : FR (fun a i : Nat => a = 77 ∧ i = 2 ∨ 94 ≤ a ∧ a ≤ 98 ∨ a = 119) M M1) : ∀ a i : Nat, WC_r a i → M1.2.1 a i = M.2.1 a i := fun a i z => F_n F (show ¬ (a = 77 ∧ i = 2 ∨ 94 ≤ a ∧ a ≤ 98 ∨ a = 119) by omega) rfl
theorem tg_712 {M M1 : mm_M} (F : FR (fun a i : Nat => a = 77 ∧ i = 2 ∨ 94 ≤ a ∧ a ≤ 98 ∨ a = 119) M M1) : ∀ a i : Nat, NJ_r a i → M1.2.1 a i = M.2.1 a i := fun a i z => F_n F (show ¬ (a = 77 ∧ i = 2 ∨ 94 ≤ a ∧ a ≤ 98 ∨ a = 119) by omega) rfl
theorem tg_713 {M M1 : mm_M} (F : FR (fun a i : Nat => a = 77 ∧ i = 2 ∨ 94 ≤ a ∧ a ≤ 98 ∨ a = 119) M M1) : ∀ a i : Nat, (a = 100 ∨ a = 77 ∧ i = 28) → M1.2.1 a i = M.2.1 a i := fun a i z => F_n F (show ¬ (a = 77 ∧ i = 2 ∨ 94 ≤ a ∧ a ≤ 98 ∨ a = 119) by omega) rfl
theorem tg_714 {M M1 : mm_M} (F : FR (fun a i : Nat => a = 77 ∧ i = 2 ∨ 94 ≤ a ∧ a ≤ 98 ∨ a = 119) M M1) : ∀ a i : Nat, KQ_r a i → M1.2.1 a i = M.2.1 a i := fun a i z => F_n F (show ¬ (a = 77 ∧ i = 2 ∨ 94 ≤ a ∧ a ≤ 98 ∨ a = 119) by omega) rfl
theorem tg_715 {M M1 : mm_M} (F : FR (fun a i : Nat => a = 77 ∧ i = 2 ∨ 94 ≤ a ∧ a ≤ 98 ∨ a = 119) M M1) : ∀ a i : Nat, (a = 1 ∧ i = 1 ∨ a = 2 ∨ a = 78) → M1.2.1 a i = M.2.1 a i := fun a i z => F_n F (show ¬ (a = 77 ∧ i = 2 ∨ 94 ≤ a ∧ a ≤ 98 ∨ a = 119) by omega) rfl
theorem tg_716 {M M1 : mm_M} (F : FR (fun a i : Nat => a = 77 ∧ i = 2 ∨ 94 ≤ a ∧ a ≤ 98 ∨ a = 119) M M1) : ∀ a i : Nat, a = 79 → M1.2.1 a i = M.2.1 a i := fun a i z => F_n F (show ¬ (a = 77 ∧ i = 2 ∨ 94 ≤ a ∧ a ≤ 98 ∨ a = 119) by omega) rfl
theorem tg_717 {M M1 : mm_M} (F : FR (fun a i : Nat => a = 77 ∧ i = 2 ∨ 94 ≤ a ∧ a ≤ 98 ∨ a = 119) M M1) : ∀ a i : Nat, 88 ≤ a ∧ a ≤ 89 → M1.2.1 a i = M.2.1 a i := fun a i z => F_n F (show ¬ (a = 77 ∧ i = 2 ∨ 94 ≤ a ∧ a ≤ 98 ∨ a = 119) by omega) rfl
theorem tg_718 {M M1 : mm_M} (F : FR (fun a i : Nat => a = 77 ∧ i = 2 ∨ 94 ≤ a ∧ a ≤ 98 ∨ a = 120) M M1) : ∀ a i : Nat, PI_r a → M1.2.1 a i = M.2.1 a i := fun a i z => F_n F (show ¬ (a = 77 ∧ i = 2 ∨ 94 ≤ a ∧ a ≤ 98 ∨ a = 120) by omega) rfl
theorem tg_719 {M M1 : mm_M} (F : FR (fun a i : Nat => a = 77 ∧ i = 2 ∨ 94 ≤ a ∧ a ≤ 98 ∨ a = 120) M M1) : ∀ a i : Nat, (7 ≤ a ∧ a ≤ 9) → M1.2.1 a i = M.2.1 a i := fun a i z => F_n F (show ¬ (a = 77 ∧ i = 2 ∨ 94 ≤ a ∧ a ≤ 98 ∨ a = 120) by omega) rfl
theorem tg_720 {M M1 : mm_M} (F : FR (fun a i : Nat => a = 77 ∧ i = 2 ∨ 94 ≤ a ∧ a ≤ 98 ∨ a = 120) M M1) : ∀ a i : Nat, (a = 68 ∨ a = 69 ∨ a = 73 ∨ a = 74) → M1.2.1 a i = M.2.1 a i := fun a i z => F_n F (show ¬ (a = 77 ∧ i = 2 ∨ 94 ≤ a ∧ a ≤ 98 ∨ a = 120) by omega) rfl
theorem tg_721 {M M1 : mm_M} (F : FR (fun a i : Nat => a = 77 ∧ i = 2 ∨ 94 ≤ a ∧ a ≤ 98 ∨ a = 120) M M1) : ∀ a i : Nat, (81 ≤ a ∧ a ≤ 84) → M1.2.1 a i = M.2.1 a i := fun a i z => F_n F (show ¬ (a = 77 ∧ i = 2 ∨ 94 ≤ a ∧ a ≤ 98 ∨ a = 120) by omega) rfl
theorem tg_722 {M M1 : mm_M} (F : FR (fun a i : Nat => a = 77 ∧ i = 2 ∨ 94 ≤ a ∧ a ≤ 98 ∨ a = 120) M M1) : ∀ a i : Nat, WC_r a i → M1.2.1 a i = M.2.1 a i := fun a i z => F_n F (show ¬ (a = 77 ∧ i = 2 ∨ 94 ≤ a ∧ a ≤ 98 ∨ a = 120) by omega) rfl
theorem tg_723 {M M1 : mm_M} (F : FR (fun a i : Nat => a = 77 ∧ i = 2 ∨ 94 ≤ a ∧ a ≤ 98 ∨ a = 120) M M1) : ∀ a i : Nat, NJ_r a i → M1.2.1 a i = M.2.1 a i := fun a i z => F_n F (show ¬ (a = 77 ∧ i = 2 ∨ 94 ≤ a ∧ a ≤ 98 ∨ a = 120) by omega) rfl
theorem tg_724 {M M1 : mm_M} (F : FR (fun a i : Nat => a = 77 ∧ i = 2 ∨ 94 ≤ a ∧ a ≤ 98 ∨ a = 120) M M1) : ∀ a i : Nat, (a = 100 ∨ a = 77 ∧ i = 28) → M1.2.1 a i = M.2.1 a i := fun a i z => F_n F (show ¬ (a = 77 ∧ i = 2 ∨ 94 ≤ a ∧ a ≤ 98 ∨ a = 120) by omega) rfl
theorem tg_725 {M M1 : mm_M} (F : FR (fun a i : Nat => a = 77 ∧ i = 2 ∨ 94 ≤ a ∧ a ≤ 98 ∨ a = 120) M M1) : ∀ a i : Nat, KQ_r a i → M1.2.1 a i = M.2.1 a i := fun a i z => F_n F (show ¬ (a = 77 ∧ i = 2 ∨ 94 ≤ a ∧ a ≤ 98 ∨ a = 120) by omega) rfl
theorem tg_726 {M M1 : mm_M} (F : FR (fun a i : Nat => a = 77 ∧ i = 2 ∨ 94 ≤ a ∧ a ≤ 98 ∨ a = 120) M M1) : ∀ a i : Nat, (a = 1 ∧ i = 1 ∨ a = 2 ∨ a = 78) → M1.2.1 a i = M.2.1 a i := fun a i z => F_n F (show ¬ (a = 77 ∧ i = 2 ∨ 94 ≤ a ∧ a ≤ 98 ∨ a = 120) by omega) rfl
theorem tg_727 {M M1 : mm_M} (F : FR (fun a i : Nat => a = 77 ∧ i = 2 ∨ 94 ≤ a ∧ a ≤ 98 ∨ a = 120) M M1) : ∀ a i : Nat, a = 79 → M1.2.1 a i = M.2.1 a i := fun a i z => F_n F (show ¬ (a = 77 ∧ i = 2 ∨ 94 ≤ a ∧ a ≤ 98 ∨ a = 120) by omega) rfl
theorem tg_728 {M M1 : mm_M} (F : FR (fun a i : Nat => a = 77 ∧ i = 2 ∨ 94 ≤ a ∧ a ≤ 98 ∨ a = 120) M M1) : ∀ a i : Nat, 88 ≤ a ∧ a ≤ 89 → M1.2.1 a i = M.2.1 a i := fun a i z => F_n F (show ¬ (a = 77 ∧ i = 2 ∨ 94 ≤ a ∧ a ≤ 98 ∨ a = 120) by omega) rfl
theorem tg_729 {M M1 : mm_M} (F : FR (fun a i : Nat => a = 77 ∧ i = 2 ∨ 94 ≤ a ∧ a ≤ 98 ∨ 121 ≤ a ∧ a ≤ 124) M M1) : ∀ a i : Nat, PI_r a → M1.2.1 a i = M.2.1 a i := fun a i z => F_n F (show ¬ (a = 77 ∧ i = 2 ∨ 94 ≤ a ∧ a ≤ 98 ∨ 121 ≤ a ∧ a ≤ 124) by omega) rfl
theorem tg_730 {M M1 : mm_M} (F : FR (fun a i : Nat => a = 77 ∧ i = 2 ∨ 94 ≤ a ∧ a ≤ 98 ∨ 121 ≤ a ∧ a ≤ 124) M M1) : ∀ a i : Nat, (7 ≤ a ∧ a ≤ 9) → M1.2.1 a i = M.2.1 a i := fun a i z => F_n F (show ¬ (a = 77 ∧ i = 2 ∨ 94 ≤ a ∧ a ≤ 98 ∨ 121 ≤ a ∧ a ≤ 124) by omega) rfl
theorem tg_731 {M M1 : mm_M} (F : FR (fun a i : Nat => a = 77 ∧ i = 2 ∨ 94 ≤ a ∧ a ≤ 98 ∨ 121 ≤ a ∧ a ≤ 124) M M1) : ∀ a i : Nat, (a = 68 ∨ a = 69 ∨ a = 73 ∨ a = 74) → M1.2.1 a i = M.2.1 a i := fun a i z => F_n F (show ¬ (a = 77 ∧ i = 2 ∨ 94 ≤ a ∧ a ≤ 98 ∨ 121 ≤ a ∧ a ≤ 124) by omega) rfl
theorem tg_732 {M M1 : mm_M} (F : FR (fun a i : Nat => a = 77 ∧ i = 2 ∨ 94 ≤ a ∧ a ≤ 98 ∨ 121 ≤ a ∧ a ≤ 124) M M1) : ∀ a i : Nat, (81 ≤ a ∧ a ≤ 84) → M1.2.1 a i = M.2.1 a i := fun a i z => F_n F (show ¬ (a = 77 ∧ i = 2 ∨ 94 ≤ a ∧ a ≤ 98 ∨ 121 ≤ a ∧ a ≤ 124) by omega) rfl
theorem tg_733 {M M1 : mm_M} (F : FR (fun a i : Nat => a = 77 ∧ i = 2 ∨ 94 ≤ a ∧ a ≤ 98 ∨ 121 ≤ a ∧ a ≤ 124) M M1) : ∀ a i : Nat, WC_r a i → M1.2.1 a i = M.2.1 a i := fun a i z => F_n F (show ¬ (a = 77 ∧ i = 2 ∨ 94 ≤ a ∧ a ≤ 98 ∨ 121 ≤ a ∧ a ≤ 124) by omega) rfl
theorem tg_734 {M M1 : mm_M} (F : FR (fun a i : Nat => a = 77 ∧ i = 2 ∨ 94 ≤ a ∧ a ≤ 98 ∨ 121 ≤ a ∧ a ≤ 124) M M1) : ∀ a i : Nat, NJ_r a i → M1.2.1 a i = M.2.1 a i := fun a i z => F_n F (show ¬ (a = 77 ∧ i = 2 ∨ 94 ≤ a ∧ a ≤ 98 ∨ 121 ≤ a ∧ a ≤ 124) by omega) rfl
theorem tg_735 {M M1 : mm_M} (F : FR (fun a i : Nat => a = 77 ∧ i = 2 ∨ 94 ≤ a ∧ a ≤ 98 ∨ 121 ≤ a ∧ a ≤ 124) M M1) : ∀ a i : Nat, (a = 100 ∨ a = 77 ∧ i = 28) → M1.2.1 a i = M.2.1 a i := fun a i z => F_n F (show ¬ (a = 77 ∧ i = 2 ∨ 94 ≤ a ∧ a ≤ 98 ∨ 121 ≤ a ∧ a ≤ 124) by omega) rfl
theorem tg_736 {M M1 : mm_M} (F : FR (fun a i : Nat => a = 77 ∧ i = 2 ∨ 94 ≤ a ∧ a ≤ 98 ∨ 121 ≤ a ∧ a ≤ 124) M M1) : ∀ a i : Nat, KQ_r a i → M1.2.1 a i = M.2.1 a i := fun a i z => F_n F (show ¬ (a = 77 ∧ i = 2 ∨ 94 ≤ a ∧ a ≤ 98 ∨ 121 ≤ a ∧ a ≤ 124) by omega) rfl
theorem tg_737 {M M1 : mm_M} (F : FR (fun a i : Nat => a = 77 ∧ i = 2 ∨ 94 ≤ a ∧ a ≤ 98 ∨ 121 ≤ a ∧ a ≤ 124) M M1) : ∀ a i : Nat, (a = 1 ∧ i = 1 ∨ a = 2 ∨ a = 78) → M1.2.1 a i = M.2.1 a i := fun a i z => F_n F (show ¬ (a = 77 ∧ i = 2 ∨ 94 ≤ a ∧ a ≤ 98 ∨ 121 ≤ a ∧ a ≤ 124) by omega) rfl
theorem tg_738 {M M1 : mm_M} (F : FR (fun a i : Nat => a = 77 ∧ i = 2 ∨ 94 ≤ a ∧ a ≤ 98 ∨ 121 ≤ a ∧ a ≤ 124) M M1) : ∀ a i : Nat, a = 79 → M1.2.1 a i = M.2.1 a i := fun a i z => F_n F (show ¬ (a = 77 ∧ i = 2 ∨ 94 ≤ a ∧ a ≤ 98 ∨ 121 ≤ a ∧ a ≤ 124) by omega) rfl
theorem tg_739 {M M1 : mm_M} (F : FR (fun a i : Nat => a = 77 ∧ i = 2 ∨ 94 ≤ a ∧ a ≤ 98 ∨ 121 ≤ a ∧ a ≤ 124) M M1) : ∀ a i : Nat, 88 ≤ a ∧ a ≤ 89 → M1.2.1 a i = M.2.1 a i := fun a i z => F_n F (show ¬ (a = 77 ∧ i = 2 ∨ 94 ≤ a ∧ a ≤ 98 ∨ 121 ≤ a ∧ a ≤ 124) by omega) rfl
theorem tg_740 {M M1 : mm_M} (F : FR (fun a i : Nat => a = 77 ∧ i = 2) M M1) : ∀ a i : Nat, (a = 77 ∧ 11 ≤ i ∧ i ≤ 13 ∨ 80 ≤ a ∧ a ≤ 84 ∧ i < 8 ∨ 85 ≤ a ∧ a ≤ 86 ∧ i < 12) → M1.2.1 a i = M.2.1 a i := fun a i z => F_n F (show ¬ (a = 77 ∧ i = 2) by omega) rfl
theorem tg_741 : ∀ a i : Nat, (49 ≤ a ∧ a ≤ 66 ∨ a = 77 ∧ 11 ≤ i ∧ i ≤ 13 ∨ 80 ≤ a ∧ a ≤ 87 ∨ 6 ≤ a ∧ a ≤ 10 ∨ 90 ≤ a ∧ a ≤ 93 ∨ a = 0 ∧ i = 12) → ¬ (a = 77 ∧ (i = 2 ∨ i = 41)) := fun a i z => by omega
theorem tg_742 : ∀ a i : Nat, (49 ≤ a ∧ a ≤ 66 ∨ a = 77 ∧ 11 ≤ i ∧ i ≤ 13 ∨ 80 ≤ a ∧ a ≤ 87 ∨ 6 ≤ a ∧ a ≤ 10 ∨ 90 ≤ a ∧ a ≤ 93 ∨ a = 0 ∧ i = 12) → ¬ (a = 17) := fun a i z => by omega
theorem tg_743 : ∀ a i : Nat, (49 ≤ a ∧ a ≤ 66 ∨ a = 77 ∧ 11 ≤ i ∧ i ≤ 13 ∨ 80 ≤ a ∧ a ≤ 87 ∨ 6 ≤ a ∧ a ≤ 10 ∨ 90 ≤ a ∧ a ≤ 93 ∨ a = 0 ∧ i = 12) → ¬ (a = 77 ∧ (i = 2 ∨ i = 41) ∨ a = 99 ∨ a = 100) := fun a i z => by omega
theorem tg_744 : ∀ a i : Nat, (49 ≤ a ∧ a ≤ 66 ∨ a = 77 ∧ 11 ≤ i ∧ i ≤ 13 ∨ 80 ≤ a ∧ a ≤ 87 ∨ 6 ≤ a ∧ a ≤ 10 ∨ 90 ≤ a ∧ a ≤ 93 ∨ a = 0 ∧ i = 12) → ¬ (17 ≤ a ∧ a ≤ 27) := fun a i z => by omega
theorem tg_745 : ∀ a i : Nat, (49 ≤ a ∧ a ≤ 66 ∨ a = 77 ∧ 11 ≤ i ∧ i ≤ 13 ∨ 80 ≤ a ∧ a ≤ 87 ∨ 6 ≤ a ∧ a ≤ 10 ∨ 90 ≤ a ∧ a ≤ 93 ∨ a = 0 ∧ i = 12) → ¬ (a = 77 ∧ i = 2 ∨ 94 ≤ a ∧ a ≤ 98 ∨ a = 117) := fun a i z => by omega
theorem tg_746 : ∀ a i : Nat, (49 ≤ a ∧ a ≤ 66 ∨ a = 77 ∧ 11 ≤ i ∧ i ≤ 13 ∨ 80 ≤ a ∧ a ≤ 87 ∨ 6 ≤ a ∧ a ≤ 10 ∨ 90 ≤ a ∧ a ≤ 93 ∨ a = 0 ∧ i = 12) → ¬ (11 ≤ a ∧ a ≤ 16 ∨ a = 71 ∨ a = 76) := fun a i z => by omega
theorem tg_747 : ∀ a i : Nat, (49 ≤ a ∧ a ≤ 66 ∨ a = 77 ∧ 11 ≤ i ∧ i ≤ 13 ∨ 80 ≤ a ∧ a ≤ 87 ∨ 6 ≤ a ∧ a ≤ 10 ∨ 90 ≤ a ∧ a ≤ 93 ∨ a = 0 ∧ i = 12) → ¬ (a = 77 ∧ i = 2 ∨ 94 ≤ a ∧ a ≤ 98 ∨ a = 118) := fun a i z => by omega
theorem tg_748 : ∀ a i : Nat, (49 ≤ a ∧ a ≤ 66 ∨ a = 77 ∧ 11 ≤ i ∧ i ≤ 13 ∨ 80 ≤ a ∧ a ≤ 87 ∨ 6 ≤ a ∧ a ≤ 10 ∨ 90 ≤ a ∧ a ≤ 93 ∨ a = 0 ∧ i = 12) → ¬ (a = 77 ∧ i = 2 ∨ 94 ≤ a ∧ a ≤ 98 ∨ a = 119) := fun a i z => by omega
theorem tg_749 : ∀ a i : Nat, (49 ≤ a ∧ a ≤ 66 ∨ a = 77 ∧ 11 ≤ i ∧ i ≤ 13 ∨ 80 ≤ a ∧ a ≤ 87 ∨ 6 ≤ a ∧ a ≤ 10 ∨ 90 ≤ a ∧ a ≤ 93 ∨ a = 0 ∧ i = 12) → ¬ (a = 77 ∧ i = 2 ∨ 94 ≤ a ∧ a ≤ 98 ∨ a = 120) := fun a i z => by omega
theorem tg_750 : ∀ a i : Nat, (49 ≤ a ∧ a ≤ 66 ∨ a = 77 ∧ 11 ≤ i ∧ i ≤ 13 ∨ 80 ≤ a ∧ a ≤ 87 ∨ 6 ≤ a ∧ a ≤ 10 ∨ 90 ≤ a ∧ a ≤ 93 ∨ a = 0 ∧ i = 12) → ¬ (a = 77 ∧ i = 2 ∨ 94 ≤ a ∧ a ≤ 98 ∨ 121 ≤ a ∧ a ≤ 124) := fun a i z => by omega
set_option maxRecDepth 4000 in
set_option maxHeartbeats 0 in
theorem LW_15 {X : mm_X} {d L : Nat} {M : mm_M} {Q : Option Value → mm_M → Prop} {i : Int32} {u5 u6 : Value} (hX : g_X X) (hW : g_W X) (hW2 : g_W2 X) (hL : (X 0).1 = L) (h3 : L ≤ 3072) (hd : 40 ≤ d) (hi : 0 ≤ i.toInt) (hi2 : i.toInt + 6 ≤ (L : Int)) (H : LI10 M) (h : ∀ (M1 : mm_M) (v5 v6 : Value), LI10 M1 → M1.1.2.1 ≤ M.1.2.1 + 1 → M1.1.2.2.1 ≤ M.1.2.2.1 + 6 → mm_T X d 0 1313 [.ref mm_ext, .ref 0, .ref 77, .ref 125, .int i, v5, v6] [] M1 Q) : mm_T X d 0 726 [.ref mm_ext, .ref 0, .ref 77, .ref 125, .int i, u5, u6] [] M Q := by
  obtain ⟨⟨⟨⟨⟨⟨⟨⟨⟨hG, ⟨jPI, jNI, jQI, jPQE⟩, ⟨jFA, jWC, jNJ, jPS, jKQ⟩, jJ, jE⟩, jTP, jW9⟩, jNE, jCC⟩, -⟩, jOV⟩, jW8⟩, jNN⟩, jAN⟩, jKNA, jDN, jPN⟩ := H
  have b_1 := g_b hG (a := 77) (i := 7) (lo := 0) (hi := 500) rfl rfl
  have b_2 := g_b hG (a := 77) (i := 6) (lo := 0) (hi := 500) rfl rfl
  have b_3 := g_b hG (a := 1) (i := 1) (lo := 0) (hi := 500) rfl rfl
  have b_4 := g_b hG (a := 77) (i := 1) (lo := 0) (hi := 500) rfl rfl
  have b_5 := g_b hG (a := 0) (i := 12) (lo := 0) (hi := 30) rfl rfl
  have b_6 := g_b hG (a := 77) (i := 28) (lo := 0) (hi := 30) rfl rfl
  have b_7 := g_b hG (a := 6) (i := 0) (lo := 0) (hi := 150) rfl rfl
  have b_8 := g_b hG (a := 77) (i := 29) (lo := 0) (hi := 150) rfl rfl
  have b_9 := g_b hG (a := 28) (i := 8) (lo := 0) (hi := 3000) rfl rfl
  have b_10 := g_b hG (a := 77) (i := 43) (lo := 0) (hi := 3000) rfl rfl
  refine to_an (pc := 726) rw_0_726 rfl (to_an (pc := 727) rw_0_727 rfl (to_i (pc := 728) rw_0_728 rfl (to_c (pc := 730) rw_0_730 (x := (1 : Int32)) rfl rfl (s_add (pc := 731) rw_0_731 (A := i.toInt) (B := 1) rfl rfl (by omega) (fun v11 e12 => s_x0 (pc := 732) rw_0_732 hL (A := v11.toInt) rfl (by omega) (by omega) (fun v13 e14 => to_an (pc := 733) rw_0_733 rfl (to_i (pc := 734) rw_0_734 rfl (to_c (pc := 736) rw_0_736 (x := (2 : Int32)) rfl rfl (s_add (pc := 737) rw_0_737 (A := i.toInt) (B := 2) rfl rfl (by omega) (fun v15 e16 => s_x0 (pc := 738) rw_0_738 hL (A := v15.toInt) rfl (by omega) (by omega) (fun v17 e18 => s_v (pc := 739) rw_0_739 (dp0 hd (by decide)) (ls0 := [.ref 0, .int v13, .int v17]) rfl (Nat.le_of_ble_eq_true rfl) (Nat.le_of_ble_eq_true rfl) rfl (to_rc rfl rfl rfl (g_o hG rfl)) rfl ?_)))))))))))
  obtain ⟨pz19, pzz19, qz19, qzz19, hpz19, hpzz19, hqz19, hqzz19, hpqz19⟩ := id jPQE
  refine C_124 hX (dp1 hd (by decide)) hG hpz19 hpzz19 hqz19 hqzz19 hpqz19 jNI jPI jQI (n := v13) (c := v17) (p := pz19) (pz := pzz19) (q := qz19) (qz := qzz19) (fun r20 M26 hG22 F21 p_23 p_24 p_25 => ?_)
  have n_27 : M26.1.2.1 = M.1.2.1 ∧ M26.1.2.2.1 = M.1.2.2.1 := by rw [F21.1]; exact ⟨rfl, rfl⟩
  refine s_pop2 (pc := 742) rw_0_742 (to_an (pc := 743) rw_0_743 rfl (to_an (pc := 744) rw_0_744 rfl (to_i (pc := 745) rw_0_745 rfl (to_c (pc := 747) rw_0_747 (x := (1 : Int32)) rfl rfl (s_addk (pc := 748) rw_0_748 (A := i.toInt) (B := 1) rfl rfl (by omega) (v := v11) e12 (s_x0k (pc := 749) rw_0_749 hL (A := v11.toInt) rfl (by omega) (by omega) (v := v13) e14 (to_an (pc := 750) rw_0_750 rfl (to_i (pc := 751) rw_0_751 rfl (to_c (pc := 753) rw_0_753 (x := (2 : Int32)) rfl rfl (s_addk (pc := 754) rw_0_754 (A := i.toInt) (B := 2) rfl rfl (by omega) (v := v15) e16 (s_x0k (pc := 755) rw_0_755 hL (A := v15.toInt) rfl (by omega) (by omega) (v := v17) e18 ?_)))))))))))
  refine s_v (pc := 756) rw_0_756 (dp0 hd (by decide)) (ls0 := [.ref 77, .int v13, .int v17]) rfl (Nat.le_of_ble_eq_true rfl) (Nat.le_of_ble_eq_true rfl) rfl (to_rc rfl rfl rfl (g_o hG22 rfl)) rfl ?_
  have j_33 := (NJ_f (tg_572 F21) jNJ)
  refine C_200 hX (dp1 hd (by decide)) hG22 j_33 (n := v13) (c := v17) (fun r34 M37 hG36 F35 => ?_)
  have n_38 : M37.1.2.1 = M26.1.2.1 ∧ M37.1.2.2.1 = M26.1.2.2.1 := by rw [F35.1]; exact ⟨rfl, rfl⟩
  refine s_pop2 (pc := 759) rw_0_759 (to_go (pc := 760) rw_0_760 ?_)
  have c_40 : M37.2.1 77 7 = (M.2.1 77 7) := (F_n F35 (show ¬ (77 = 77 ∧ 7 = 2 ∨ 94 ≤ 77 ∧ 77 ≤ 98) by decide) (F_n F21 (show ¬ (11 ≤ 77 ∧ 77 ≤ 16 ∨ 18 ≤ 77 ∧ 77 ≤ 27 ∨ 36 ≤ 77 ∧ 77 ≤ 48) by decide) rfl))
  have t_41 : (M37.2.1 77 7).toInt = (M.2.1 77 7).toInt := congrArg Int32.toInt c_40
  have c_42 : M37.2.1 77 6 = (M.2.1 77 6) := (F_n F35 (show ¬ (77 = 77 ∧ 6 = 2 ∨ 94 ≤ 77 ∧ 77 ≤ 98) by decide) (F_n F21 (show ¬ (11 ≤ 77 ∧ 77 ≤ 16 ∨ 18 ≤ 77 ∧ 77 ≤ 27 ∨ 36 ≤ 77 ∧ 77 ≤ 48) by decide) rfl))
  have t_43 : (M37.2.1 77 6).toInt = (M.2.1 77 6).toInt := congrArg Int32.toInt c_42
  have c_44 : M37.2.1 1 1 = (M.2.1 1 1) := (F_n F35 (show ¬ (1 = 77 ∧ 1 = 2 ∨ 94 ≤ 1 ∧ 1 ≤ 98) by decide) (F_n F21 (show ¬ (11 ≤ 1 ∧ 1 ≤ 16 ∨ 18 ≤ 1 ∧ 1 ≤ 27 ∨ 36 ≤ 1 ∧ 1 ≤ 48) by decide) rfl))
  have t_45 : (M37.2.1 1 1).toInt = (M.2.1 1 1).toInt := congrArg Int32.toInt c_44
  have c_46 : M37.2.1 77 1 = (M.2.1 77 1) := (F_n F35 (show ¬ (77 = 77 ∧ 1 = 2 ∨ 94 ≤ 77 ∧ 77 ≤ 98) by decide) (F_n F21 (show ¬ (11 ≤ 77 ∧ 77 ≤ 16 ∨ 18 ≤ 77 ∧ 77 ≤ 27 ∨ 36 ≤ 77 ∧ 77 ≤ 48) by decide) rfl))
  have t_47 : (M37.2.1 77 1).toInt = (M.2.1 77 1).toInt := congrArg Int32.toInt c_46
  have c_48 : M37.2.1 0 12 = (M.2.1 0 12) := (F_n F35 (show ¬ (0 = 77 ∧ 12 = 2 ∨ 94 ≤ 0 ∧ 0 ≤ 98) by decide) (F_n F21 (show ¬ (11 ≤ 0 ∧ 0 ≤ 16 ∨ 18 ≤ 0 ∧ 0 ≤ 27 ∨ 36 ≤ 0 ∧ 0 ≤ 48) by decide) rfl))
  have t_49 : (M37.2.1 0 12).toInt = (M.2.1 0 12).toInt := congrArg Int32.toInt c_48
  have c_50 : M37.2.1 77 28 = (M.2.1 77 28) := (F_n F35 (show ¬ (77 = 77 ∧ 28 = 2 ∨ 94 ≤ 77 ∧ 77 ≤ 98) by decide) (F_n F21 (show ¬ (11 ≤ 77 ∧ 77 ≤ 16 ∨ 18 ≤ 77 ∧ 77 ≤ 27 ∨ 36 ≤ 77 ∧ 77 ≤ 48) by decide) rfl))
  have t_51 : (M37.2.1 77 28).toInt = (M.2.1 77 28).toInt := congrArg Int32.toInt c_50
  have c_52 : M37.2.1 17 4 = (M.2.1 17 4) := (F_n F35 (show ¬ (17 = 77 ∧ 4 = 2 ∨ 94 ≤ 17 ∧ 17 ≤ 98) by decide) (F_n F21 (show ¬ (11 ≤ 17 ∧ 17 ≤ 16 ∨ 18 ≤ 17 ∧ 17 ≤ 27 ∨ 36 ≤ 17 ∧ 17 ≤ 48) by decide) rfl))
  have t_53 : (M37.2.1 17 4).toInt = (M.2.1 17 4).toInt := congrArg Int32.toInt c_52
  have c_54 : M37.2.1 77 41 = (M.2.1 77 41) := (F_n F35 (show ¬ (77 = 77 ∧ 41 = 2 ∨ 94 ≤ 77 ∧ 77 ≤ 98) by decide) (F_n F21 (show ¬ (11 ≤ 77 ∧ 77 ≤ 16 ∨ 18 ≤ 77 ∧ 77 ≤ 27 ∨ 36 ≤ 77 ∧ 77 ≤ 48) by decide) rfl))
  have t_55 : (M37.2.1 77 41).toInt = (M.2.1 77 41).toInt := congrArg Int32.toInt c_54
  have c_56 : M37.2.1 6 0 = (M.2.1 6 0) := (F_n F35 (show ¬ (6 = 77 ∧ 0 = 2 ∨ 94 ≤ 6 ∧ 6 ≤ 98) by decide) (F_n F21 (show ¬ (11 ≤ 6 ∧ 6 ≤ 16 ∨ 18 ≤ 6 ∧ 6 ≤ 27 ∨ 36 ≤ 6 ∧ 6 ≤ 48) by decide) rfl))
  have t_57 : (M37.2.1 6 0).toInt = (M.2.1 6 0).toInt := congrArg Int32.toInt c_56
  have c_58 : M37.2.1 77 29 = (M.2.1 77 29) := (F_n F35 (show ¬ (77 = 77 ∧ 29 = 2 ∨ 94 ≤ 77 ∧ 77 ≤ 98) by decide) (F_n F21 (show ¬ (11 ≤ 77 ∧ 77 ≤ 16 ∨ 18 ≤ 77 ∧ 77 ≤ 27 ∨ 36 ≤ 77 ∧ 77 ≤ 48) by decide) rfl))
  have t_59 : (M37.2.1 77 29).toInt = (M.2.1 77 29).toInt := congrArg Int32.toInt c_58
  have c_60 : M37.2.1 28 8 = (M.2.1 28 8) := (F_n F35 (show ¬ (28 = 77 ∧ 8 = 2 ∨ 94 ≤ 28 ∧ 28 ≤ 98) by decide) (F_n F21 (show ¬ (11 ≤ 28 ∧ 28 ≤ 16 ∨ 18 ≤ 28 ∧ 28 ≤ 27 ∨ 36 ≤ 28 ∧ 28 ≤ 48) by decide) rfl))
  have t_61 : (M37.2.1 28 8).toInt = (M.2.1 28 8).toInt := congrArg Int32.toInt c_60
  have c_62 : M37.2.1 77 43 = (M.2.1 77 43) := (F_n F35 (show ¬ (77 = 77 ∧ 43 = 2 ∨ 94 ≤ 77 ∧ 77 ≤ 98) by decide) (F_n F21 (show ¬ (11 ≤ 77 ∧ 77 ≤ 16 ∨ 18 ≤ 77 ∧ 77 ≤ 27 ∨ 36 ≤ 77 ∧ 77 ≤ 48) by decide) rfl))
  have t_63 : (M37.2.1 77 43).toInt = (M.2.1 77 43).toInt := congrArg Int32.toInt c_62
  have c_64 : M37.2.1 28 9 = (M.2.1 28 9) := (F_n F35 (show ¬ (28 = 77 ∧ 9 = 2 ∨ 94 ≤ 28 ∧ 28 ≤ 98) by decide) (F_n F21 (show ¬ (11 ≤ 28 ∧ 28 ≤ 16 ∨ 18 ≤ 28 ∧ 28 ≤ 27 ∨ 36 ≤ 28 ∧ 28 ≤ 48) by decide) rfl))
  have t_65 : (M37.2.1 28 9).toInt = (M.2.1 28 9).toInt := congrArg Int32.toInt c_64
  have c_66 : M37.2.1 77 42 = (M.2.1 77 42) := (F_n F35 (show ¬ (77 = 77 ∧ 42 = 2 ∨ 94 ≤ 77 ∧ 77 ≤ 98) by decide) (F_n F21 (show ¬ (11 ≤ 77 ∧ 77 ≤ 16 ∨ 18 ≤ 77 ∧ 77 ≤ 27 ∨ 36 ≤ 77 ∧ 77 ≤ 48) by decide) rfl))
  have t_67 : (M37.2.1 77 42).toInt = (M.2.1 77 42).toInt := congrArg Int32.toInt c_66
  have j_68 := (PI_f (tg_573 F35) p_23)
  have j_69 := (NI_f (tg_574 F35) p_24)
  have j_70 := (QI_f (tg_575 F35) p_25)
  have j_71 := (PQE_r F35.2.1 (PQE_r F21.2.1 jPQE))
  have j_72 := (FA_f (tg_576 F35) (FA_f (tg_577 F21) jFA))
  have j_73 := (WC_f (tg_578 F35) (WC_f (tg_579 F21) jWC))
  have j_74 := (NJ_f (tg_580 F35) j_33)
  have j_75 := (PS_f (tg_581 F35) (PS_f (tg_582 F21) jPS))
  have j_76 := (KQ_f (tg_583 F35) (KQ_f (tg_584 F21) jKQ))
  have j_77 := (TP_f (tg_585 F35) (TP_f (tg_586 F21) jTP))
  have j_78 := (W9_f (tg_587 F35) (W9_f (tg_588 F21) jW9))
  have j_79 := (AN_F F35 tg_635 (AN_F F21 tg_636 jAN))
  have j_80 := (KNA_F F35 (fun a i z => show ¬ (a = 77 ∧ i = 2 ∨ 94 ≤ a ∧ a ≤ 98) by omega) (KNA_F F21 (fun a i z => show ¬ (11 ≤ a ∧ a ≤ 16 ∨ 18 ≤ a ∧ a ≤ 27 ∨ 36 ≤ a ∧ a ≤ 48) by omega) jKNA))
  have j_81 := (NE_r F35.2.1 (NE_r F21.2.1 jNE))
  have j_82 := (W8_f (tg_589 F35) (W8_f (tg_590 F21) jW8))
  exact h M37 (u5) (u6) ⟨⟨⟨⟨⟨⟨⟨⟨⟨hG36, ⟨j_68, j_69, j_70, j_71⟩, ⟨j_72, j_73, j_74, j_75, j_76⟩, by omega, by omega⟩, j_77, j_78⟩, j_81, by omega⟩, AN_a j_79⟩, by omega⟩, j_82⟩, by omega⟩, j_79⟩, j_80, by omega, by omega⟩ (by omega) (by omega)
set_option maxRecDepth 4000 in
set_option maxHeartbeats 0 in
theorem LW_16 {X : mm_X} {d L : Nat} {M : mm_M} {Q : Option Value → mm_M → Prop} {i : Int32} {u5 u6 : Value} (hX : g_X X) (hW : g_W X) (hW2 : g_W2 X) (hL : (X 0).1 = L) (h3 : L ≤ 3072) (hd : 40 ≤ d) (hi : 0 ≤ i.toInt) (hi2 : i.toInt + 6 ≤ (L : Int)) (H : LI10 M) (h : ∀ (M1 : mm_M) (v5 v6 : Value), LI10 M1 → M1.1.2.1 ≤ M.1.2.1 + 1 → M1.1.2.2.1 ≤ M.1.2.2.1 + 6 → mm_T X d 0 1313 [.ref mm_ext, .ref 0, .ref 77, .ref 125, .int i, v5, v6] [] M1 Q) : mm_T X d 0 763 [.ref mm_ext, .ref 0, .ref 77, .ref 125, .int i, u5, u6] [] M Q := by
  obtain ⟨⟨⟨⟨⟨⟨⟨⟨⟨hG, ⟨jPI, jNI, jQI, jPQE⟩, ⟨jFA, jWC, jNJ, jPS, jKQ⟩, jJ, jE⟩, jTP, jW9⟩, jNE, jCC⟩, -⟩, jOV⟩, jW8⟩, jNN⟩, jAN⟩, jKNA, jDN, jPN⟩ := H
  have b_1 := g_b hG (a := 77) (i := 7) (lo := 0) (hi := 500) rfl rfl
  have b_2 := g_b hG (a := 77) (i := 6) (lo := 0) (hi := 500) rfl rfl
  have b_3 := g_b hG (a := 1) (i := 1) (lo := 0) (hi := 500) rfl rfl
  have b_4 := g_b hG (a := 77) (i := 1) (lo := 0) (hi := 500) rfl rfl
  have b_5 := g_b hG (a := 0) (i := 12) (lo := 0) (hi := 30) rfl rfl
  have b_6 := g_b hG (a := 77) (i := 28) (lo := 0) (hi := 30) rfl rfl
  have b_7 := g_b hG (a := 6) (i := 0) (lo := 0) (hi := 150) rfl rfl
  have b_8 := g_b hG (a := 77) (i := 29) (lo := 0) (hi := 150) rfl rfl
  have b_9 := g_b hG (a := 28) (i := 8) (lo := 0) (hi := 3000) rfl rfl
  have b_10 := g_b hG (a := 77) (i := 43) (lo := 0) (hi := 3000) rfl rfl
  refine to_an (pc := 763) rw_0_763 rfl (to_an (pc := 764) rw_0_764 rfl (to_i (pc := 765) rw_0_765 rfl (to_c (pc := 767) rw_0_767 (x := (1 : Int32)) rfl rfl (s_add (pc := 768) rw_0_768 (A := i.toInt) (B := 1) rfl rfl (by omega) (fun v11 e12 => s_x0 (pc := 769) rw_0_769 hL (A := v11.toInt) rfl (by omega) (by omega) (fun v13 e14 => to_an (pc := 770) rw_0_770 rfl (to_i (pc := 771) rw_0_771 rfl (to_c (pc := 773) rw_0_773 (x := (2 : Int32)) rfl rfl (s_add (pc := 774) rw_0_774 (A := i.toInt) (B := 2) rfl rfl (by omega) (fun v15 e16 => s_x0 (pc := 775) rw_0_775 hL (A := v15.toInt) rfl (by omega) (by omega) (fun v17 e18 => to_an (pc := 776) rw_0_776 rfl ?_)))))))))))
  refine to_i (pc := 777) rw_0_777 rfl (to_c (pc := 779) rw_0_779 (x := (3 : Int32)) rfl rfl (s_add (pc := 780) rw_0_780 (A := i.toInt) (B := 3) rfl rfl (by omega) (fun v19 e20 => s_x0 (pc := 781) rw_0_781 hL (A := v19.toInt) rfl (by omega) (by omega) (fun v21 e22 => s_v (pc := 782) rw_0_782 (dp0 hd (by decide)) (ls0 := [.ref 0, .int v13, .int v17, .int v21]) rfl (Nat.le_of_ble_eq_true rfl) (Nat.le_of_ble_eq_true rfl) rfl (to_rc rfl rfl rfl (g_o hG rfl)) rfl ?_))))
  obtain ⟨pz23, pzz23, qz23, qzz23, hpz23, hpzz23, hqz23, hqzz23, hpqz23⟩ := id jPQE
  refine C_125 hX (dp1 hd (by decide)) hG hpz23 hpzz23 hqz23 hqzz23 hpqz23 jNI jPI jQI (n := v13) (c := v17) (f := v21) (p := pz23) (pz := pzz23) (q := qz23) (qz := qzz23) (fun r24 M30 hG26 F25 p_27 p_28 p_29 => ?_)
  have n_31 : M30.1.2.1 = M.1.2.1 ∧ M30.1.2.2.1 = M.1.2.2.1 := by rw [F25.1]; exact ⟨rfl, rfl⟩
  refine to_popi (pc := 785) rw_0_785 (to_an (pc := 786) rw_0_786 rfl (to_an (pc := 787) rw_0_787 rfl (to_i (pc := 788) rw_0_788 rfl (to_c (pc := 790) rw_0_790 (x := (1 : Int32)) rfl rfl (s_addk (pc := 791) rw_0_791 (A := i.toInt) (B := 1) rfl rfl (by omega) (v := v11) e12 (s_x0k (pc := 792) rw_0_792 hL (A := v11.toInt) rfl (by omega) (by omega) (v := v13) e14 (to_an (pc := 793) rw_0_793 rfl (to_i (pc := 794) rw_0_794 rfl (to_c (pc := 796) rw_0_796 (x := (2 : Int32)) rfl rfl (s_addk (pc := 797) rw_0_797 (A := i.toInt) (B := 2) rfl rfl (by omega) (v := v15) e16 (s_x0k (pc := 798) rw_0_798 hL (A := v15.toInt) rfl (by omega) (by omega) (v := v17) e18 ?_)))))))))))
  refine to_an (pc := 799) rw_0_799 rfl (to_i (pc := 800) rw_0_800 rfl (to_c (pc := 802) rw_0_802 (x := (3 : Int32)) rfl rfl (s_addk (pc := 803) rw_0_803 (A := i.toInt) (B := 3) rfl rfl (by omega) (v := v19) e20 (s_x0k (pc := 804) rw_0_804 hL (A := v19.toInt) rfl (by omega) (by omega) (v := v21) e22 (s_v (pc := 805) rw_0_805 (dp0 hd (by decide)) (ls0 := [.ref 77, .int v13, .int v17, .int v21]) rfl (Nat.le_of_ble_eq_true rfl) (Nat.le_of_ble_eq_true rfl) rfl (to_rc rfl rfl rfl (g_o hG26 rfl)) rfl ?_)))))
  have j_39 := (NJ_f (tg_572 F25) jNJ)
  refine C_202 hX (dp1 hd (by decide)) hG26 j_39 (n := v13) (c := v17) (f := v21) (fun r40 M43 hG42 F41 => ?_)
  have n_44 : M43.1.2.1 = M30.1.2.1 ∧ M43.1.2.2.1 = M30.1.2.2.1 := by rw [F41.1]; exact ⟨rfl, rfl⟩
  refine to_popi (pc := 808) rw_0_808 (to_go (pc := 809) rw_0_809 ?_)
  have c_46 : M43.2.1 77 7 = (M.2.1 77 7) := (F_n F41 (show ¬ (77 = 77 ∧ 7 = 2 ∨ 94 ≤ 77 ∧ 77 ≤ 98) by decide) (F_n F25 (show ¬ (11 ≤ 77 ∧ 77 ≤ 16 ∨ 18 ≤ 77 ∧ 77 ≤ 27 ∨ 36 ≤ 77 ∧ 77 ≤ 48) by decide) rfl))
  have t_47 : (M43.2.1 77 7).toInt = (M.2.1 77 7).toInt := congrArg Int32.toInt c_46
  have c_48 : M43.2.1 77 6 = (M.2.1 77 6) := (F_n F41 (show ¬ (77 = 77 ∧ 6 = 2 ∨ 94 ≤ 77 ∧ 77 ≤ 98) by decide) (F_n F25 (show ¬ (11 ≤ 77 ∧ 77 ≤ 16 ∨ 18 ≤ 77 ∧ 77 ≤ 27 ∨ 36 ≤ 77 ∧ 77 ≤ 48) by decide) rfl))
  have t_49 : (M43.2.1 77 6).toInt = (M.2.1 77 6).toInt := congrArg Int32.toInt c_48
  have c_50 : M43.2.1 1 1 = (M.2.1 1 1) := (F_n F41 (show ¬ (1 = 77 ∧ 1 = 2 ∨ 94 ≤ 1 ∧ 1 ≤ 98) by decide) (F_n F25 (show ¬ (11 ≤ 1 ∧ 1 ≤ 16 ∨ 18 ≤ 1 ∧ 1 ≤ 27 ∨ 36 ≤ 1 ∧ 1 ≤ 48) by decide) rfl))
  have t_51 : (M43.2.1 1 1).toInt = (M.2.1 1 1).toInt := congrArg Int32.toInt c_50
  have c_52 : M43.2.1 77 1 = (M.2.1 77 1) := (F_n F41 (show ¬ (77 = 77 ∧ 1 = 2 ∨ 94 ≤ 77 ∧ 77 ≤ 98) by decide) (F_n F25 (show ¬ (11 ≤ 77 ∧ 77 ≤ 16 ∨ 18 ≤ 77 ∧ 77 ≤ 27 ∨ 36 ≤ 77 ∧ 77 ≤ 48) by decide) rfl))
  have t_53 : (M43.2.1 77 1).toInt = (M.2.1 77 1).toInt := congrArg Int32.toInt c_52
  have c_54 : M43.2.1 0 12 = (M.2.1 0 12) := (F_n F41 (show ¬ (0 = 77 ∧ 12 = 2 ∨ 94 ≤ 0 ∧ 0 ≤ 98) by decide) (F_n F25 (show ¬ (11 ≤ 0 ∧ 0 ≤ 16 ∨ 18 ≤ 0 ∧ 0 ≤ 27 ∨ 36 ≤ 0 ∧ 0 ≤ 48) by decide) rfl))
  have t_55 : (M43.2.1 0 12).toInt = (M.2.1 0 12).toInt := congrArg Int32.toInt c_54
  have c_56 : M43.2.1 77 28 = (M.2.1 77 28) := (F_n F41 (show ¬ (77 = 77 ∧ 28 = 2 ∨ 94 ≤ 77 ∧ 77 ≤ 98) by decide) (F_n F25 (show ¬ (11 ≤ 77 ∧ 77 ≤ 16 ∨ 18 ≤ 77 ∧ 77 ≤ 27 ∨ 36 ≤ 77 ∧ 77 ≤ 48) by decide) rfl))
  have t_57 : (M43.2.1 77 28).toInt = (M.2.1 77 28).toInt := congrArg Int32.toInt c_56
  have c_58 : M43.2.1 17 4 = (M.2.1 17 4) := (F_n F41 (show ¬ (17 = 77 ∧ 4 = 2 ∨ 94 ≤ 17 ∧ 17 ≤ 98) by decide) (F_n F25 (show ¬ (11 ≤ 17 ∧ 17 ≤ 16 ∨ 18 ≤ 17 ∧ 17 ≤ 27 ∨ 36 ≤ 17 ∧ 17 ≤ 48) by decide) rfl))
  have t_59 : (M43.2.1 17 4).toInt = (M.2.1 17 4).toInt := congrArg Int32.toInt c_58
  have c_60 : M43.2.1 77 41 = (M.2.1 77 41) := (F_n F41 (show ¬ (77 = 77 ∧ 41 = 2 ∨ 94 ≤ 77 ∧ 77 ≤ 98) by decide) (F_n F25 (show ¬ (11 ≤ 77 ∧ 77 ≤ 16 ∨ 18 ≤ 77 ∧ 77 ≤ 27 ∨ 36 ≤ 77 ∧ 77 ≤ 48) by decide) rfl))
  have t_61 : (M43.2.1 77 41).toInt = (M.2.1 77 41).toInt := congrArg Int32.toInt c_60
  have c_62 : M43.2.1 6 0 = (M.2.1 6 0) := (F_n F41 (show ¬ (6 = 77 ∧ 0 = 2 ∨ 94 ≤ 6 ∧ 6 ≤ 98) by decide) (F_n F25 (show ¬ (11 ≤ 6 ∧ 6 ≤ 16 ∨ 18 ≤ 6 ∧ 6 ≤ 27 ∨ 36 ≤ 6 ∧ 6 ≤ 48) by decide) rfl))
  have t_63 : (M43.2.1 6 0).toInt = (M.2.1 6 0).toInt := congrArg Int32.toInt c_62
  have c_64 : M43.2.1 77 29 = (M.2.1 77 29) := (F_n F41 (show ¬ (77 = 77 ∧ 29 = 2 ∨ 94 ≤ 77 ∧ 77 ≤ 98) by decide) (F_n F25 (show ¬ (11 ≤ 77 ∧ 77 ≤ 16 ∨ 18 ≤ 77 ∧ 77 ≤ 27 ∨ 36 ≤ 77 ∧ 77 ≤ 48) by decide) rfl))
  have t_65 : (M43.2.1 77 29).toInt = (M.2.1 77 29).toInt := congrArg Int32.toInt c_64
  have c_66 : M43.2.1 28 8 = (M.2.1 28 8) := (F_n F41 (show ¬ (28 = 77 ∧ 8 = 2 ∨ 94 ≤ 28 ∧ 28 ≤ 98) by decide) (F_n F25 (show ¬ (11 ≤ 28 ∧ 28 ≤ 16 ∨ 18 ≤ 28 ∧ 28 ≤ 27 ∨ 36 ≤ 28 ∧ 28 ≤ 48) by decide) rfl))
  have t_67 : (M43.2.1 28 8).toInt = (M.2.1 28 8).toInt := congrArg Int32.toInt c_66
  have c_68 : M43.2.1 77 43 = (M.2.1 77 43) := (F_n F41 (show ¬ (77 = 77 ∧ 43 = 2 ∨ 94 ≤ 77 ∧ 77 ≤ 98) by decide) (F_n F25 (show ¬ (11 ≤ 77 ∧ 77 ≤ 16 ∨ 18 ≤ 77 ∧ 77 ≤ 27 ∨ 36 ≤ 77 ∧ 77 ≤ 48) by decide) rfl))
  have t_69 : (M43.2.1 77 43).toInt = (M.2.1 77 43).toInt := congrArg Int32.toInt c_68
  have c_70 : M43.2.1 28 9 = (M.2.1 28 9) := (F_n F41 (show ¬ (28 = 77 ∧ 9 = 2 ∨ 94 ≤ 28 ∧ 28 ≤ 98) by decide) (F_n F25 (show ¬ (11 ≤ 28 ∧ 28 ≤ 16 ∨ 18 ≤ 28 ∧ 28 ≤ 27 ∨ 36 ≤ 28 ∧ 28 ≤ 48) by decide) rfl))
  have t_71 : (M43.2.1 28 9).toInt = (M.2.1 28 9).toInt := congrArg Int32.toInt c_70
  have c_72 : M43.2.1 77 42 = (M.2.1 77 42) := (F_n F41 (show ¬ (77 = 77 ∧ 42 = 2 ∨ 94 ≤ 77 ∧ 77 ≤ 98) by decide) (F_n F25 (show ¬ (11 ≤ 77 ∧ 77 ≤ 16 ∨ 18 ≤ 77 ∧ 77 ≤ 27 ∨ 36 ≤ 77 ∧ 77 ≤ 48) by decide) rfl))
  have t_73 : (M43.2.1 77 42).toInt = (M.2.1 77 42).toInt := congrArg Int32.toInt c_72
  have j_74 := (PI_f (tg_573 F41) p_27)
  have j_75 := (NI_f (tg_574 F41) p_28)
  have j_76 := (QI_f (tg_575 F41) p_29)
  have j_77 := (PQE_r F41.2.1 (PQE_r F25.2.1 jPQE))
  have j_78 := (FA_f (tg_576 F41) (FA_f (tg_577 F25) jFA))
  have j_79 := (WC_f (tg_578 F41) (WC_f (tg_579 F25) jWC))
  have j_80 := (NJ_f (tg_580 F41) j_39)
  have j_81 := (PS_f (tg_581 F41) (PS_f (tg_582 F25) jPS))
  have j_82 := (KQ_f (tg_583 F41) (KQ_f (tg_584 F25) jKQ))
  have j_83 := (TP_f (tg_585 F41) (TP_f (tg_586 F25) jTP))
  have j_84 := (W9_f (tg_587 F41) (W9_f (tg_588 F25) jW9))
  have j_85 := (AN_F F41 tg_635 (AN_F F25 tg_636 jAN))
  have j_86 := (KNA_F F41 (fun a i z => show ¬ (a = 77 ∧ i = 2 ∨ 94 ≤ a ∧ a ≤ 98) by omega) (KNA_F F25 (fun a i z => show ¬ (11 ≤ a ∧ a ≤ 16 ∨ 18 ≤ a ∧ a ≤ 27 ∨ 36 ≤ a ∧ a ≤ 48) by omega) jKNA))
  have j_87 := (NE_r F41.2.1 (NE_r F25.2.1 jNE))
  have j_88 := (W8_f (tg_589 F41) (W8_f (tg_590 F25) jW8))
  exact h M43 (u5) (u6) ⟨⟨⟨⟨⟨⟨⟨⟨⟨hG42, ⟨j_74, j_75, j_76, j_77⟩, ⟨j_78, j_79, j_80, j_81, j_82⟩, by omega, by omega⟩, j_83, j_84⟩, j_87, by omega⟩, AN_a j_85⟩, by omega⟩, j_88⟩, by omega⟩, j_85⟩, j_86, by omega, by omega⟩ (by omega) (by omega)
set_option maxRecDepth 4000 in
set_option maxHeartbeats 0 in
theorem LW_17 {X : mm_X} {d L : Nat} {M : mm_M} {Q : Option Value → mm_M → Prop} {i : Int32} {u5 u6 : Value} (hX : g_X X) (hW : g_W X) (hW2 : g_W2 X) (hL : (X 0).1 = L) (h3 : L ≤ 3072) (hd : 40 ≤ d) (hi : 0 ≤ i.toInt) (hi2 : i.toInt + 6 ≤ (L : Int)) (H : LI10 M) (h : ∀ (M1 : mm_M) (v5 v6 : Value), LI10 M1 → M1.1.2.1 ≤ M.1.2.1 + 1 → M1.1.2.2.1 ≤ M.1.2.2.1 + 6 → mm_T X d 0 1313 [.ref mm_ext, .ref 0, .ref 77, .ref 125, .int i, v5, v6] [] M1 Q) : mm_T X d 0 812 [.ref mm_ext, .ref 0, .ref 77, .ref 125, .int i, u5, u6] [] M Q := by
  obtain ⟨⟨⟨⟨⟨⟨⟨⟨⟨hG, ⟨jPI, jNI, jQI, jPQE⟩, ⟨jFA, jWC, jNJ, jPS, jKQ⟩, jJ, jE⟩, jTP, jW9⟩, jNE, jCC⟩, -⟩, jOV⟩, jW8⟩, jNN⟩, jAN⟩, jKNA, jDN, jPN⟩ := H
  have b_1 := g_b hG (a := 77) (i := 7) (lo := 0) (hi := 500) rfl rfl
  have b_2 := g_b hG (a := 77) (i := 6) (lo := 0) (hi := 500) rfl rfl
  have b_3 := g_b hG (a := 1) (i := 1) (lo := 0) (hi := 500) rfl rfl
  have b_4 := g_b hG (a := 77) (i := 1) (lo := 0) (hi := 500) rfl rfl
  have b_5 := g_b hG (a := 0) (i := 12) (lo := 0) (hi := 30) rfl rfl
  have b_6 := g_b hG (a := 77) (i := 28) (lo := 0) (hi := 30) rfl rfl
  have b_7 := g_b hG (a := 6) (i := 0) (lo := 0) (hi := 150) rfl rfl
  have b_8 := g_b hG (a := 77) (i := 29) (lo := 0) (hi := 150) rfl rfl
  have b_9 := g_b hG (a := 28) (i := 8) (lo := 0) (hi := 3000) rfl rfl
  have b_10 := g_b hG (a := 77) (i := 43) (lo := 0) (hi := 3000) rfl rfl
  refine to_an (pc := 812) rw_0_812 rfl (to_an (pc := 813) rw_0_813 rfl (to_i (pc := 814) rw_0_814 rfl (to_c (pc := 816) rw_0_816 (x := (1 : Int32)) rfl rfl (s_add (pc := 817) rw_0_817 (A := i.toInt) (B := 1) rfl rfl (by omega) (fun v11 e12 => s_x0 (pc := 818) rw_0_818 hL (A := v11.toInt) rfl (by omega) (by omega) (fun v13 e14 => s_v (pc := 819) rw_0_819 (dp0 hd (by decide)) (ls0 := [.ref 0, .int v13]) rfl (Nat.le_of_ble_eq_true rfl) (Nat.le_of_ble_eq_true rfl) rfl (to_rc rfl rfl rfl (g_o hG rfl)) rfl ?_))))))
  obtain ⟨pz15, pzz15, qz15, qzz15, hpz15, hpzz15, hqz15, hqzz15, hpqz15⟩ := id jPQE
  refine E_126 hX (dp1 hd (by decide)) hG hpz15 hpzz15 hqz15 hqzz15 hpqz15 jPI jNI jQI (c := v13) (p := pz15) (pz := pzz15) (q := qz15) (qz := qzz15) (fun r16 M28 hG18 F17 p_19 p_20 p_21 p_22 p_23 p_24 p_25 p_26 p_27 => ?_)
  have n_29 : M28.1.2.1 = M.1.2.1 ∧ M28.1.2.2.1 = M.1.2.2.1 := by rw [F17.1]; exact ⟨rfl, rfl⟩
  refine to_popi (pc := 822) rw_0_822 (to_an (pc := 823) rw_0_823 rfl (to_an (pc := 824) rw_0_824 rfl (to_i (pc := 825) rw_0_825 rfl (to_c (pc := 827) rw_0_827 (x := (1 : Int32)) rfl rfl (s_addk (pc := 828) rw_0_828 (A := i.toInt) (B := 1) rfl rfl (by omega) (v := v11) e12 (s_x0k (pc := 829) rw_0_829 hL (A := v11.toInt) rfl (by omega) (by omega) (v := v13) e14 (s_v (pc := 830) rw_0_830 (dp0 hd (by decide)) (ls0 := [.ref 77, .int v13]) rfl (Nat.le_of_ble_eq_true rfl) (Nat.le_of_ble_eq_true rfl) rfl (to_rc rfl rfl rfl (g_o hG18 rfl)) rfl ?_)))))))
  have c_33 : M28.2.1 77 28 = (M.2.1 77 28) := (F_n F17 (show ¬ (77 = 17) by decide) rfl)
  have t_34 : (M28.2.1 77 28).toInt = (M.2.1 77 28).toInt := congrArg Int32.toInt c_33
  have c_35 : M28.2.1 77 41 = (M.2.1 77 41) := (F_n F17 (show ¬ (77 = 17) by decide) rfl)
  have t_36 : (M28.2.1 77 41).toInt = (M.2.1 77 41).toInt := congrArg Int32.toInt c_35
  refine E_203 hX (dp1 hd (by decide)) hG18 (c := v13) (fun r37 M46 hG39 F38 p_40 p_41 p_42 p_43 p_44 p_45 => ?_)
  have n_47 : M46.1.2.1 = M28.1.2.1 ∧ M46.1.2.2.1 = M28.1.2.2.1 := by rw [F38.1]; exact ⟨rfl, rfl⟩
  have c_49 : M46.2.1 17 4 = (M28.2.1 17 4) := (F_n F38 (show ¬ (17 = 77 ∧ (4 = 2 ∨ 4 = 41)) by decide) rfl)
  have t_50 : (M46.2.1 17 4).toInt = (M28.2.1 17 4).toInt := congrArg Int32.toInt c_49
  have c_51 : M46.2.1 6 0 = (M.2.1 6 0) := (F_n F38 (show ¬ (6 = 77 ∧ (0 = 2 ∨ 0 = 41)) by decide) (F_n F17 (show ¬ (6 = 17) by decide) rfl))
  have t_52 : (M46.2.1 6 0).toInt = (M.2.1 6 0).toInt := congrArg Int32.toInt c_51
  have c_53 : M46.2.1 77 29 = (M.2.1 77 29) := (F_n F38 (show ¬ (77 = 77 ∧ (29 = 2 ∨ 29 = 41)) by decide) (F_n F17 (show ¬ (77 = 17) by decide) rfl))
  have t_54 : (M46.2.1 77 29).toInt = (M.2.1 77 29).toInt := congrArg Int32.toInt c_53
  have z_55 : (M46.2.1 17 4).toInt = (M46.2.1 77 41).toInt := by
    by_cases g9 : 0 ≤ v13.toInt ∧ v13.toInt < (M.2.1 0 12).toInt
    · exact TV_e (M := M) (M1 := M28) (by omega) (p_27 (by omega)) (F_n F38 (show ¬ (17 = 77 ∧ (4 = 2 ∨ 4 = 41)) by decide) rfl) (F_n F17 (show ¬ (77 = 17) by decide) rfl) (p_45 (by omega))
    · omega
  refine to_popi (pc := 833) rw_0_833 (to_go (pc := 834) rw_0_834 ?_)
  have c_56 : M46.2.1 77 7 = (M.2.1 77 7) := (F_n F38 (show ¬ (77 = 77 ∧ (7 = 2 ∨ 7 = 41)) by decide) (F_n F17 (show ¬ (77 = 17) by decide) rfl))
  have t_57 : (M46.2.1 77 7).toInt = (M.2.1 77 7).toInt := congrArg Int32.toInt c_56
  have c_58 : M46.2.1 77 6 = (M.2.1 77 6) := (F_n F38 (show ¬ (77 = 77 ∧ (6 = 2 ∨ 6 = 41)) by decide) (F_n F17 (show ¬ (77 = 17) by decide) rfl))
  have t_59 : (M46.2.1 77 6).toInt = (M.2.1 77 6).toInt := congrArg Int32.toInt c_58
  have c_60 : M46.2.1 1 1 = (M.2.1 1 1) := (F_n F38 (show ¬ (1 = 77 ∧ (1 = 2 ∨ 1 = 41)) by decide) (F_n F17 (show ¬ (1 = 17) by decide) rfl))
  have t_61 : (M46.2.1 1 1).toInt = (M.2.1 1 1).toInt := congrArg Int32.toInt c_60
  have c_62 : M46.2.1 77 1 = (M.2.1 77 1) := (F_n F38 (show ¬ (77 = 77 ∧ (1 = 2 ∨ 1 = 41)) by decide) (F_n F17 (show ¬ (77 = 17) by decide) rfl))
  have t_63 : (M46.2.1 77 1).toInt = (M.2.1 77 1).toInt := congrArg Int32.toInt c_62
  have c_64 : M46.2.1 0 12 = (M.2.1 0 12) := (F_n F38 (show ¬ (0 = 77 ∧ (12 = 2 ∨ 12 = 41)) by decide) (F_n F17 (show ¬ (0 = 17) by decide) rfl))
  have t_65 : (M46.2.1 0 12).toInt = (M.2.1 0 12).toInt := congrArg Int32.toInt c_64
  have c_66 : M46.2.1 77 28 = (M.2.1 77 28) := (F_n F38 (show ¬ (77 = 77 ∧ (28 = 2 ∨ 28 = 41)) by decide) c_33)
  have t_67 : (M46.2.1 77 28).toInt = (M.2.1 77 28).toInt := congrArg Int32.toInt c_66
  have c_68 : M46.2.1 28 8 = (M.2.1 28 8) := (F_n F38 (show ¬ (28 = 77 ∧ (8 = 2 ∨ 8 = 41)) by decide) (F_n F17 (show ¬ (28 = 17) by decide) rfl))
  have t_69 : (M46.2.1 28 8).toInt = (M.2.1 28 8).toInt := congrArg Int32.toInt c_68
  have c_70 : M46.2.1 77 43 = (M.2.1 77 43) := (F_n F38 (show ¬ (77 = 77 ∧ (43 = 2 ∨ 43 = 41)) by decide) (F_n F17 (show ¬ (77 = 17) by decide) rfl))
  have t_71 : (M46.2.1 77 43).toInt = (M.2.1 77 43).toInt := congrArg Int32.toInt c_70
  have c_72 : M46.2.1 28 9 = (M.2.1 28 9) := (F_n F38 (show ¬ (28 = 77 ∧ (9 = 2 ∨ 9 = 41)) by decide) (F_n F17 (show ¬ (28 = 17) by decide) rfl))
  have t_73 : (M46.2.1 28 9).toInt = (M.2.1 28 9).toInt := congrArg Int32.toInt c_72
  have c_74 : M46.2.1 77 42 = (M.2.1 77 42) := (F_n F38 (show ¬ (77 = 77 ∧ (42 = 2 ∨ 42 = 41)) by decide) (F_n F17 (show ¬ (77 = 17) by decide) rfl))
  have t_75 : (M46.2.1 77 42).toInt = (M.2.1 77 42).toInt := congrArg Int32.toInt c_74
  have j_76 := (PI_f (tg_638 F38) p_23)
  have j_77 := (NI_f (tg_639 F38) p_24)
  have j_78 := (QI_f (tg_640 F38) p_25)
  have j_79 := (PQE_r F38.2.1 (PQE_r F17.2.1 jPQE))
  have j_80 := (FA_f (tg_641 F38) (FA_f (tg_642 F17) jFA))
  have j_81 := (WC_f (tg_643 F38) (WC_f (tg_644 F17) jWC))
  have j_82 := (NJ_f (tg_645 F38) (NJ_f (tg_646 F17) jNJ))
  have j_83 := (PS_f (tg_647 F38) (PS_f (tg_648 F17) jPS))
  have j_84 := (KQ_f (tg_649 F38) (KQ_f (tg_650 F17) jKQ))
  have j_85 := (TP_f (tg_651 F38) (TP_f (tg_652 F17) jTP))
  have j_86 := (W9_f (tg_653 F38) (W9_f (tg_654 F17) jW9))
  have j_87 := (AN_F F38 tg_741 (AN_F F17 tg_742 jAN))
  have j_88 := (KNA_F F38 (fun a i z => show ¬ (a = 77 ∧ (i = 2 ∨ i = 41)) by omega) (KNA_F F17 (fun a i z => show ¬ (a = 17) by omega) jKNA))
  have j_89 := (NE_r F38.2.1 (NE_r F17.2.1 jNE))
  have j_90 := (W8_f (tg_655 F38) (W8_f (tg_656 F17) jW8))
  exact h M46 (u5) (u6) ⟨⟨⟨⟨⟨⟨⟨⟨⟨hG39, ⟨j_76, j_77, j_78, j_79⟩, ⟨j_80, j_81, j_82, j_83, j_84⟩, by omega, by omega⟩, j_85, j_86⟩, j_89, by omega⟩, AN_a j_87⟩, by omega⟩, j_90⟩, by omega⟩, j_87⟩, j_88, by omega, by omega⟩ (by omega) (by omega)
set_option maxRecDepth 4000 in
set_option maxHeartbeats 0 in
theorem LW_18 {X : mm_X} {d L : Nat} {M : mm_M} {Q : Option Value → mm_M → Prop} {i : Int32} {u5 u6 : Value} (hX : g_X X) (hW : g_W X) (hW2 : g_W2 X) (hL : (X 0).1 = L) (h3 : L ≤ 3072) (hd : 40 ≤ d) (hi : 0 ≤ i.toInt) (hi2 : i.toInt + 6 ≤ (L : Int)) (H : LI10 M) (h : ∀ (M1 : mm_M) (v5 v6 : Value), LI10 M1 → M1.1.2.1 ≤ M.1.2.1 + 1 → M1.1.2.2.1 ≤ M.1.2.2.1 + 6 → mm_T X d 0 1313 [.ref mm_ext, .ref 0, .ref 77, .ref 125, .int i, v5, v6] [] M1 Q) : mm_T X d 0 837 [.ref mm_ext, .ref 0, .ref 77, .ref 125, .int i, u5, u6] [] M Q := by
  obtain ⟨⟨⟨⟨⟨⟨⟨⟨⟨hG, ⟨jPI, jNI, jQI, jPQE⟩, ⟨jFA, jWC, jNJ, jPS, jKQ⟩, jJ, jE⟩, jTP, jW9⟩, jNE, jCC⟩, -⟩, jOV⟩, jW8⟩, jNN⟩, jAN⟩, jKNA, jDN, jPN⟩ := H
  have b_1 := g_b hG (a := 77) (i := 7) (lo := 0) (hi := 500) rfl rfl
  have b_2 := g_b hG (a := 77) (i := 6) (lo := 0) (hi := 500) rfl rfl
  have b_3 := g_b hG (a := 1) (i := 1) (lo := 0) (hi := 500) rfl rfl
  have b_4 := g_b hG (a := 77) (i := 1) (lo := 0) (hi := 500) rfl rfl
  have b_5 := g_b hG (a := 0) (i := 12) (lo := 0) (hi := 30) rfl rfl
  have b_6 := g_b hG (a := 77) (i := 28) (lo := 0) (hi := 30) rfl rfl
  have b_7 := g_b hG (a := 6) (i := 0) (lo := 0) (hi := 150) rfl rfl
  have b_8 := g_b hG (a := 77) (i := 29) (lo := 0) (hi := 150) rfl rfl
  have b_9 := g_b hG (a := 28) (i := 8) (lo := 0) (hi := 3000) rfl rfl
  have b_10 := g_b hG (a := 77) (i := 43) (lo := 0) (hi := 3000) rfl rfl
  refine to_an (pc := 837) rw_0_837 rfl (s_v (pc := 838) rw_0_838 (dp0 hd (by decide)) (ls0 := [.ref 0]) rfl (Nat.le_of_ble_eq_true rfl) (Nat.le_of_ble_eq_true rfl) rfl (to_rc rfl rfl rfl (g_o hG rfl)) rfl ?_)
  obtain ⟨pz11, pzz11, qz11, qzz11, hpz11, hpzz11, hqz11, hqzz11, hpqz11⟩ := id jPQE
  refine C_127 hX (dp1 hd (by decide)) hG hpz11 hpzz11 hqz11 hqzz11 hpqz11 (p := pz11) (pz := pzz11) (q := qz11) (qz := qzz11) (fun r12 M16 hG14 F13 p_15 => ?_)
  have n_17 : M16.1.2.1 = M.1.2.1 ∧ M16.1.2.2.1 = M.1.2.2.1 := by rw [F13.1]; exact ⟨rfl, rfl⟩
  refine to_popi (pc := 841) rw_0_841 (to_an (pc := 842) rw_0_842 rfl (s_v (pc := 843) rw_0_843 (dp0 hd (by decide)) (ls0 := [.ref 77]) rfl (Nat.le_of_ble_eq_true rfl) (Nat.le_of_ble_eq_true rfl) rfl (to_rc rfl rfl rfl (g_o hG14 rfl)) rfl ?_))
  have c_19 : M16.2.1 77 41 = (M.2.1 77 41) := (F_n F13 (show ¬ (77 < 0) by decide) rfl)
  have t_20 : (M16.2.1 77 41).toInt = (M.2.1 77 41).toInt := congrArg Int32.toInt c_19
  refine C_204 hX (dp1 hd (by decide)) hG14  (fun r21 M25 hG23 F22 p_24 => ?_)
  have n_26 : M25.1.2.1 = M16.1.2.1 ∧ M25.1.2.2.1 = M16.1.2.2.1 := by rw [F22.1]; exact ⟨rfl, rfl⟩
  refine to_popi (pc := 846) rw_0_846 (to_go (pc := 847) rw_0_847 ?_)
  have c_28 : M25.2.1 77 7 = (M.2.1 77 7) := (F_n F22 (show ¬ (77 = 77 ∧ 7 = 2) by decide) (F_n F13 (show ¬ (77 < 0) by decide) rfl))
  have t_29 : (M25.2.1 77 7).toInt = (M.2.1 77 7).toInt := congrArg Int32.toInt c_28
  have c_30 : M25.2.1 77 6 = (M.2.1 77 6) := (F_n F22 (show ¬ (77 = 77 ∧ 6 = 2) by decide) (F_n F13 (show ¬ (77 < 0) by decide) rfl))
  have t_31 : (M25.2.1 77 6).toInt = (M.2.1 77 6).toInt := congrArg Int32.toInt c_30
  have c_32 : M25.2.1 1 1 = (M.2.1 1 1) := (F_n F22 (show ¬ (1 = 77 ∧ 1 = 2) by decide) (F_n F13 (show ¬ (1 < 0) by decide) rfl))
  have t_33 : (M25.2.1 1 1).toInt = (M.2.1 1 1).toInt := congrArg Int32.toInt c_32
  have c_34 : M25.2.1 77 1 = (M.2.1 77 1) := (F_n F22 (show ¬ (77 = 77 ∧ 1 = 2) by decide) (F_n F13 (show ¬ (77 < 0) by decide) rfl))
  have t_35 : (M25.2.1 77 1).toInt = (M.2.1 77 1).toInt := congrArg Int32.toInt c_34
  have c_36 : M25.2.1 0 12 = (M.2.1 0 12) := (F_n F22 (show ¬ (0 = 77 ∧ 12 = 2) by decide) (F_n F13 (show ¬ (0 < 0) by decide) rfl))
  have t_37 : (M25.2.1 0 12).toInt = (M.2.1 0 12).toInt := congrArg Int32.toInt c_36
  have c_38 : M25.2.1 77 28 = (M.2.1 77 28) := (F_n F22 (show ¬ (77 = 77 ∧ 28 = 2) by decide) (F_n F13 (show ¬ (77 < 0) by decide) rfl))
  have t_39 : (M25.2.1 77 28).toInt = (M.2.1 77 28).toInt := congrArg Int32.toInt c_38
  have c_40 : M25.2.1 17 4 = (M.2.1 17 4) := (F_n F22 (show ¬ (17 = 77 ∧ 4 = 2) by decide) (F_n F13 (show ¬ (17 < 0) by decide) rfl))
  have t_41 : (M25.2.1 17 4).toInt = (M.2.1 17 4).toInt := congrArg Int32.toInt c_40
  have c_42 : M25.2.1 77 41 = (M.2.1 77 41) := (F_n F22 (show ¬ (77 = 77 ∧ 41 = 2) by decide) c_19)
  have t_43 : (M25.2.1 77 41).toInt = (M.2.1 77 41).toInt := congrArg Int32.toInt c_42
  have c_44 : M25.2.1 6 0 = (M.2.1 6 0) := (F_n F22 (show ¬ (6 = 77 ∧ 0 = 2) by decide) (F_n F13 (show ¬ (6 < 0) by decide) rfl))
  have t_45 : (M25.2.1 6 0).toInt = (M.2.1 6 0).toInt := congrArg Int32.toInt c_44
  have c_46 : M25.2.1 77 29 = (M.2.1 77 29) := (F_n F22 (show ¬ (77 = 77 ∧ 29 = 2) by decide) (F_n F13 (show ¬ (77 < 0) by decide) rfl))
  have t_47 : (M25.2.1 77 29).toInt = (M.2.1 77 29).toInt := congrArg Int32.toInt c_46
  have c_48 : M25.2.1 28 8 = (M.2.1 28 8) := (F_n F22 (show ¬ (28 = 77 ∧ 8 = 2) by decide) (F_n F13 (show ¬ (28 < 0) by decide) rfl))
  have t_49 : (M25.2.1 28 8).toInt = (M.2.1 28 8).toInt := congrArg Int32.toInt c_48
  have c_50 : M25.2.1 77 43 = (M.2.1 77 43) := (F_n F22 (show ¬ (77 = 77 ∧ 43 = 2) by decide) (F_n F13 (show ¬ (77 < 0) by decide) rfl))
  have t_51 : (M25.2.1 77 43).toInt = (M.2.1 77 43).toInt := congrArg Int32.toInt c_50
  have c_52 : M25.2.1 28 9 = (M.2.1 28 9) := (F_n F22 (show ¬ (28 = 77 ∧ 9 = 2) by decide) (F_n F13 (show ¬ (28 < 0) by decide) rfl))
  have t_53 : (M25.2.1 28 9).toInt = (M.2.1 28 9).toInt := congrArg Int32.toInt c_52
  have c_54 : M25.2.1 77 42 = (M.2.1 77 42) := (F_n F22 (show ¬ (77 = 77 ∧ 42 = 2) by decide) (F_n F13 (show ¬ (77 < 0) by decide) rfl))
  have t_55 : (M25.2.1 77 42).toInt = (M.2.1 77 42).toInt := congrArg Int32.toInt c_54
  have j_56 := (PI_f (tg_557 F22) (PI_f (tg_99 F13) jPI))
  have j_57 := (NI_f (tg_558 F22) (NI_f (tg_98 F13) jNI))
  have j_58 := (QI_f (tg_559 F22) (QI_f (tg_100 F13) jQI))
  have j_59 := (PQE_r F22.2.1 (PQE_r F13.2.1 jPQE))
  have j_60 := (FA_f (tg_560 F22) (FA_f (tg_299 F13) jFA))
  have j_61 := (WC_f (tg_561 F22) (WC_f (tg_562 F13) jWC))
  have j_62 := (NJ_f (tg_563 F22) (NJ_f (tg_102 F13) jNJ))
  have j_63 := (PS_f (tg_564 F22) (PS_f (tg_565 F13) jPS))
  have j_64 := (KQ_f (tg_566 F22) (KQ_f (tg_416 F13) jKQ))
  have j_65 := (TP_f (tg_567 F22) (TP_f (tg_568 F13) jTP))
  have j_66 := (W9_f (tg_569 F22) (W9_f (tg_46 F13) jW9))
  have j_67 := (AN_F F22 tg_633 (AN_F F13 tg_634 jAN))
  have j_68 := (KNA_F F22 (fun a i z => show ¬ (a = 77 ∧ i = 2) by omega) (KNA_F F13 (fun a i z => show ¬ (a < 0) by omega) jKNA))
  have j_69 := (NE_r F22.2.1 (NE_r F13.2.1 jNE))
  have j_70 := (W8_f (tg_570 F22) (W8_f (tg_571 F13) jW8))
  exact h M25 (u5) (u6) ⟨⟨⟨⟨⟨⟨⟨⟨⟨hG23, ⟨j_56, j_57, j_58, j_59⟩, ⟨j_60, j_61, j_62, j_63, j_64⟩, by omega, by omega⟩, j_65, j_66⟩, j_69, by omega⟩, AN_a j_67⟩, by omega⟩, j_70⟩, by omega⟩, j_67⟩, j_68, by omega, by omega⟩ (by omega) (by omega)
set_option maxRecDepth 4000 in
set_option maxHeartbeats 0 in
theorem LW_19 {X : mm_X} {d L : Nat} {M : mm_M} {Q : Option Value → mm_M → Prop} {i : Int32} {u5 u6 : Value} (hX : g_X X) (hW : g_W X) (hW2 : g_W2 X) (hL : (X 0).1 = L) (h3 : L ≤ 3072) (hd : 40 ≤ d) (hi : 0 ≤ i.toInt) (hi2 : i.toInt + 6 ≤ (L : Int)) (H : LI10 M) (h : ∀ (M1 : mm_M) (v5 v6 : Value), LI10 M1 → M1.1.2.1 ≤ M.1.2.1 + 1 → M1.1.2.2.1 ≤ M.1.2.2.1 + 6 → mm_T X d 0 1313 [.ref mm_ext, .ref 0, .ref 77, .ref 125, .int i, v5, v6] [] M1 Q) : mm_T X d 0 850 [.ref mm_ext, .ref 0, .ref 77, .ref 125, .int i, u5, u6] [] M Q := by
  obtain ⟨⟨⟨⟨⟨⟨⟨⟨⟨hG, ⟨jPI, jNI, jQI, jPQE⟩, ⟨jFA, jWC, jNJ, jPS, jKQ⟩, jJ, jE⟩, jTP, jW9⟩, jNE, jCC⟩, -⟩, jOV⟩, jW8⟩, jNN⟩, jAN⟩, jKNA, jDN, jPN⟩ := H
  have b_1 := g_b hG (a := 77) (i := 7) (lo := 0) (hi := 500) rfl rfl
  have b_2 := g_b hG (a := 77) (i := 6) (lo := 0) (hi := 500) rfl rfl
  have b_3 := g_b hG (a := 1) (i := 1) (lo := 0) (hi := 500) rfl rfl
  have b_4 := g_b hG (a := 77) (i := 1) (lo := 0) (hi := 500) rfl rfl
  have b_5 := g_b hG (a := 0) (i := 12) (lo := 0) (hi := 30) rfl rfl
  have b_6 := g_b hG (a := 77) (i := 28) (lo := 0) (hi := 30) rfl rfl
  have b_7 := g_b hG (a := 6) (i := 0) (lo := 0) (hi := 150) rfl rfl
  have b_8 := g_b hG (a := 77) (i := 29) (lo := 0) (hi := 150) rfl rfl
  have b_9 := g_b hG (a := 28) (i := 8) (lo := 0) (hi := 3000) rfl rfl
  have b_10 := g_b hG (a := 77) (i := 43) (lo := 0) (hi := 3000) rfl rfl
  refine to_an (pc := 850) rw_0_850 rfl (to_an (pc := 851) rw_0_851 rfl (to_i (pc := 852) rw_0_852 rfl (to_c (pc := 854) rw_0_854 (x := (1 : Int32)) rfl rfl (s_add (pc := 855) rw_0_855 (A := i.toInt) (B := 1) rfl rfl (by omega) (fun v11 e12 => s_x0 (pc := 856) rw_0_856 hL (A := v11.toInt) rfl (by omega) (by omega) (fun v13 e14 => to_an (pc := 857) rw_0_857 rfl (to_i (pc := 858) rw_0_858 rfl (to_c (pc := 860) rw_0_860 (x := (2 : Int32)) rfl rfl (s_add (pc := 861) rw_0_861 (A := i.toInt) (B := 2) rfl rfl (by omega) (fun v15 e16 => s_x0 (pc := 862) rw_0_862 hL (A := v15.toInt) rfl (by omega) (by omega) (fun v17 e18 => s_v (pc := 863) rw_0_863 (dp0 hd (by decide)) (ls0 := [.ref 0, .int v13, .int v17]) rfl (Nat.le_of_ble_eq_true rfl) (Nat.le_of_ble_eq_true rfl) rfl (to_rc rfl rfl rfl (g_o hG rfl)) rfl ?_)))))))))))
  obtain ⟨pz19, pzz19, qz19, qzz19, hpz19, hpzz19, hqz19, hqzz19, hpqz19⟩ := id jPQE
  refine C_128 hX (dp1 hd (by decide)) hG hpz19 hpzz19 hqz19 hqzz19 hpqz19 (k := v13) (j := v17) (p := pz19) (pz := pzz19) (q := qz19) (qz := qzz19) (fun r20 M23 hG22 F21 => ?_)
  have n_24 : M23.1.2.1 = M.1.2.1 ∧ M23.1.2.2.1 = M.1.2.2.1 := by rw [F21.1]; exact ⟨rfl, rfl⟩
  refine to_popi (pc := 866) rw_0_866 (to_an (pc := 867) rw_0_867 rfl (to_an (pc := 868) rw_0_868 rfl (to_i (pc := 869) rw_0_869 rfl (to_c (pc := 871) rw_0_871 (x := (1 : Int32)) rfl rfl (s_addk (pc := 872) rw_0_872 (A := i.toInt) (B := 1) rfl rfl (by omega) (v := v11) e12 (s_x0k (pc := 873) rw_0_873 hL (A := v11.toInt) rfl (by omega) (by omega) (v := v13) e14 (to_an (pc := 874) rw_0_874 rfl (to_i (pc := 875) rw_0_875 rfl (to_c (pc := 877) rw_0_877 (x := (2 : Int32)) rfl rfl (s_addk (pc := 878) rw_0_878 (A := i.toInt) (B := 2) rfl rfl (by omega) (v := v15) e16 (s_x0k (pc := 879) rw_0_879 hL (A := v15.toInt) rfl (by omega) (by omega) (v := v17) e18 ?_)))))))))))
  refine s_v (pc := 880) rw_0_880 (dp0 hd (by decide)) (ls0 := [.ref 77, .int v13, .int v17]) rfl (Nat.le_of_ble_eq_true rfl) (Nat.le_of_ble_eq_true rfl) rfl (to_rc rfl rfl rfl (g_o hG22 rfl)) rfl (C_206 hX (dp1 hd (by decide)) hG22 (p := v13) (k := v17) (fun r30 M33 hG32 F31 => ?_))
  have n_34 : M33.1.2.1 = M23.1.2.1 ∧ M33.1.2.2.1 = M23.1.2.2.1 := by rw [F31.1]; exact ⟨rfl, rfl⟩
  refine to_popi (pc := 883) rw_0_883 (to_go (pc := 884) rw_0_884 ?_)
  have c_36 : M33.2.1 77 7 = (M.2.1 77 7) := (F_n F31 (show ¬ (77 = 77 ∧ 7 = 2) by decide) (F_n F21 (show ¬ (77 < 0) by decide) rfl))
  have t_37 : (M33.2.1 77 7).toInt = (M.2.1 77 7).toInt := congrArg Int32.toInt c_36
  have c_38 : M33.2.1 77 6 = (M.2.1 77 6) := (F_n F31 (show ¬ (77 = 77 ∧ 6 = 2) by decide) (F_n F21 (show ¬ (77 < 0) by decide) rfl))
  have t_39 : (M33.2.1 77 6).toInt = (M.2.1 77 6).toInt := congrArg Int32.toInt c_38
  have c_40 : M33.2.1 1 1 = (M.2.1 1 1) := (F_n F31 (show ¬ (1 = 77 ∧ 1 = 2) by decide) (F_n F21 (show ¬ (1 < 0) by decide) rfl))
  have t_41 : (M33.2.1 1 1).toInt = (M.2.1 1 1).toInt := congrArg Int32.toInt c_40
  have c_42 : M33.2.1 77 1 = (M.2.1 77 1) := (F_n F31 (show ¬ (77 = 77 ∧ 1 = 2) by decide) (F_n F21 (show ¬ (77 < 0) by decide) rfl))
  have t_43 : (M33.2.1 77 1).toInt = (M.2.1 77 1).toInt := congrArg Int32.toInt c_42
  have c_44 : M33.2.1 0 12 = (M.2.1 0 12) := (F_n F31 (show ¬ (0 = 77 ∧ 12 = 2) by decide) (F_n F21 (show ¬ (0 < 0) by decide) rfl))
  have t_45 : (M33.2.1 0 12).toInt = (M.2.1 0 12).toInt := congrArg Int32.toInt c_44
  have c_46 : M33.2.1 77 28 = (M.2.1 77 28) := (F_n F31 (show ¬ (77 = 77 ∧ 28 = 2) by decide) (F_n F21 (show ¬ (77 < 0) by decide) rfl))
  have t_47 : (M33.2.1 77 28).toInt = (M.2.1 77 28).toInt := congrArg Int32.toInt c_46
  have c_48 : M33.2.1 17 4 = (M.2.1 17 4) := (F_n F31 (show ¬ (17 = 77 ∧ 4 = 2) by decide) (F_n F21 (show ¬ (17 < 0) by decide) rfl))
  have t_49 : (M33.2.1 17 4).toInt = (M.2.1 17 4).toInt := congrArg Int32.toInt c_48
  have c_50 : M33.2.1 77 41 = (M.2.1 77 41) := (F_n F31 (show ¬ (77 = 77 ∧ 41 = 2) by decide) (F_n F21 (show ¬ (77 < 0) by decide) rfl))
  have t_51 : (M33.2.1 77 41).toInt = (M.2.1 77 41).toInt := congrArg Int32.toInt c_50
  have c_52 : M33.2.1 6 0 = (M.2.1 6 0) := (F_n F31 (show ¬ (6 = 77 ∧ 0 = 2) by decide) (F_n F21 (show ¬ (6 < 0) by decide) rfl))
  have t_53 : (M33.2.1 6 0).toInt = (M.2.1 6 0).toInt := congrArg Int32.toInt c_52
  have c_54 : M33.2.1 77 29 = (M.2.1 77 29) := (F_n F31 (show ¬ (77 = 77 ∧ 29 = 2) by decide) (F_n F21 (show ¬ (77 < 0) by decide) rfl))
  have t_55 : (M33.2.1 77 29).toInt = (M.2.1 77 29).toInt := congrArg Int32.toInt c_54
  have c_56 : M33.2.1 28 8 = (M.2.1 28 8) := (F_n F31 (show ¬ (28 = 77 ∧ 8 = 2) by decide) (F_n F21 (show ¬ (28 < 0) by decide) rfl))
  have t_57 : (M33.2.1 28 8).toInt = (M.2.1 28 8).toInt := congrArg Int32.toInt c_56
  have c_58 : M33.2.1 77 43 = (M.2.1 77 43) := (F_n F31 (show ¬ (77 = 77 ∧ 43 = 2) by decide) (F_n F21 (show ¬ (77 < 0) by decide) rfl))
  have t_59 : (M33.2.1 77 43).toInt = (M.2.1 77 43).toInt := congrArg Int32.toInt c_58
  have c_60 : M33.2.1 28 9 = (M.2.1 28 9) := (F_n F31 (show ¬ (28 = 77 ∧ 9 = 2) by decide) (F_n F21 (show ¬ (28 < 0) by decide) rfl))
  have t_61 : (M33.2.1 28 9).toInt = (M.2.1 28 9).toInt := congrArg Int32.toInt c_60
  have c_62 : M33.2.1 77 42 = (M.2.1 77 42) := (F_n F31 (show ¬ (77 = 77 ∧ 42 = 2) by decide) (F_n F21 (show ¬ (77 < 0) by decide) rfl))
  have t_63 : (M33.2.1 77 42).toInt = (M.2.1 77 42).toInt := congrArg Int32.toInt c_62
  have j_64 := (PI_f (tg_557 F31) (PI_f (tg_99 F21) jPI))
  have j_65 := (NI_f (tg_558 F31) (NI_f (tg_98 F21) jNI))
  have j_66 := (QI_f (tg_559 F31) (QI_f (tg_100 F21) jQI))
  have j_67 := (PQE_r F31.2.1 (PQE_r F21.2.1 jPQE))
  have j_68 := (FA_f (tg_560 F31) (FA_f (tg_299 F21) jFA))
  have j_69 := (WC_f (tg_561 F31) (WC_f (tg_562 F21) jWC))
  have j_70 := (NJ_f (tg_563 F31) (NJ_f (tg_102 F21) jNJ))
  have j_71 := (PS_f (tg_564 F31) (PS_f (tg_565 F21) jPS))
  have j_72 := (KQ_f (tg_566 F31) (KQ_f (tg_416 F21) jKQ))
  have j_73 := (TP_f (tg_567 F31) (TP_f (tg_568 F21) jTP))
  have j_74 := (W9_f (tg_569 F31) (W9_f (tg_46 F21) jW9))
  have j_75 := (AN_F F31 tg_633 (AN_F F21 tg_634 jAN))
  have j_76 := (KNA_F F31 (fun a i z => show ¬ (a = 77 ∧ i = 2) by omega) (KNA_F F21 (fun a i z => show ¬ (a < 0) by omega) jKNA))
  have j_77 := (NE_r F31.2.1 (NE_r F21.2.1 jNE))
  have j_78 := (W8_f (tg_570 F31) (W8_f (tg_571 F21) jW8))
  exact h M33 (u5) (u6) ⟨⟨⟨⟨⟨⟨⟨⟨⟨hG32, ⟨j_64, j_65, j_66, j_67⟩, ⟨j_68, j_69, j_70, j_71, j_72⟩, by omega, by omega⟩, j_73, j_74⟩, j_77, by omega⟩, AN_a j_75⟩, by omega⟩, j_78⟩, by omega⟩, j_75⟩, j_76, by omega, by omega⟩ (by omega) (by omega)
set_option maxRecDepth 4000 in
set_option maxHeartbeats 0 in
theorem LW_20 {X : mm_X} {d L : Nat} {M : mm_M} {Q : Option Value → mm_M → Prop} {i : Int32} {u5 u6 : Value} (hX : g_X X) (hW : g_W X) (hW2 : g_W2 X) (hL : (X 0).1 = L) (h3 : L ≤ 3072) (hd : 40 ≤ d) (hi : 0 ≤ i.toInt) (hi2 : i.toInt + 6 ≤ (L : Int)) (H : LI10 M) (h : ∀ (M1 : mm_M) (v5 v6 : Value), LI10 M1 → M1.1.2.1 ≤ M.1.2.1 + 1 → M1.1.2.2.1 ≤ M.1.2.2.1 + 6 → mm_T X d 0 1313 [.ref mm_ext, .ref 0, .ref 77, .ref 125, .int i, v5, v6] [] M1 Q) : mm_T X d 0 887 [.ref mm_ext, .ref 0, .ref 77, .ref 125, .int i, u5, u6] [] M Q := by
  obtain ⟨⟨⟨⟨⟨⟨⟨⟨⟨hG, ⟨jPI, jNI, jQI, jPQE⟩, ⟨jFA, jWC, jNJ, jPS, jKQ⟩, jJ, jE⟩, jTP, jW9⟩, jNE, jCC⟩, -⟩, jOV⟩, jW8⟩, jNN⟩, jAN⟩, jKNA, jDN, jPN⟩ := H
  have b_1 := g_b hG (a := 77) (i := 7) (lo := 0) (hi := 500) rfl rfl
  have b_2 := g_b hG (a := 77) (i := 6) (lo := 0) (hi := 500) rfl rfl
  have b_3 := g_b hG (a := 1) (i := 1) (lo := 0) (hi := 500) rfl rfl
  have b_4 := g_b hG (a := 77) (i := 1) (lo := 0) (hi := 500) rfl rfl
  have b_5 := g_b hG (a := 0) (i := 12) (lo := 0) (hi := 30) rfl rfl
  have b_6 := g_b hG (a := 77) (i := 28) (lo := 0) (hi := 30) rfl rfl
  have b_7 := g_b hG (a := 6) (i := 0) (lo := 0) (hi := 150) rfl rfl
  have b_8 := g_b hG (a := 77) (i := 29) (lo := 0) (hi := 150) rfl rfl
  have b_9 := g_b hG (a := 28) (i := 8) (lo := 0) (hi := 3000) rfl rfl
  have b_10 := g_b hG (a := 77) (i := 43) (lo := 0) (hi := 3000) rfl rfl
  refine to_an (pc := 887) rw_0_887 rfl (to_an (pc := 888) rw_0_888 rfl (to_i (pc := 889) rw_0_889 rfl (to_c (pc := 891) rw_0_891 (x := (1 : Int32)) rfl rfl (s_add (pc := 892) rw_0_892 (A := i.toInt) (B := 1) rfl rfl (by omega) (fun v11 e12 => s_x0 (pc := 893) rw_0_893 hL (A := v11.toInt) rfl (by omega) (by omega) (fun v13 e14 => to_an (pc := 894) rw_0_894 rfl (to_i (pc := 895) rw_0_895 rfl (to_c (pc := 897) rw_0_897 (x := (2 : Int32)) rfl rfl (s_add (pc := 898) rw_0_898 (A := i.toInt) (B := 2) rfl rfl (by omega) (fun v15 e16 => s_x0 (pc := 899) rw_0_899 hL (A := v15.toInt) rfl (by omega) (by omega) (fun v17 e18 => s_i2l (pc := 900) rw_0_900 (fun l19 e20 => ?_))))))))))))
  refine to_c (pc := 901) rw_0_901 (x := (32 : Int32)) rfl rfl (s_anyS (pc := 903) rw_0_903 (fun _ _ => rfl) (fun l21 => to_an (pc := 904) rw_0_904 rfl (to_i (pc := 905) rw_0_905 rfl (to_c (pc := 907) rw_0_907 (x := (3 : Int32)) rfl rfl (s_add (pc := 908) rw_0_908 (A := i.toInt) (B := 3) rfl rfl (by omega) (fun v22 e23 => s_x0 (pc := 909) rw_0_909 hL (A := v22.toInt) rfl (by omega) (by omega) (fun v24 e25 => s_i2l (pc := 910) rw_0_910 (fun l26 e27 => s_cl (pc := 911) rw_0_911 rfl (fun l28 => s_anyL (pc := 914) rw_0_914 (fun _ _ => rfl) (fun l29 => s_anyL (pc := 915) rw_0_915 (fun _ _ => rfl) (fun l30 => s_v (pc := 916) rw_0_916 (dp0 hd (by decide)) (ls0 := [.ref 0, .int v13, .long l30, .null]) rfl (Nat.le_of_ble_eq_true rfl) (Nat.le_of_ble_eq_true rfl) rfl (to_rc rfl rfl rfl (g_o hG rfl)) rfl ?_)))))))))))
  obtain ⟨pz31, pzz31, qz31, qzz31, hpz31, hpzz31, hqz31, hqzz31, hpqz31⟩ := id jPQE
  refine C_129 hX (dp1 hd (by decide)) hG hpz31 hpzz31 hqz31 hqzz31 hpqz31 jNI jPI jQI (k := v13) (x := l30) (p := pz31) (pz := pzz31) (q := qz31) (qz := qzz31) (fun r32 M38 hG34 F33 p_35 p_36 p_37 => ?_)
  have n_39 : M38.1.2.1 = M.1.2.1 ∧ M38.1.2.2.1 = M.1.2.2.1 := by rw [F33.1]; exact ⟨rfl, rfl⟩
  refine to_popi (pc := 919) rw_0_919 (to_an (pc := 920) rw_0_920 rfl (to_an (pc := 921) rw_0_921 rfl (to_i (pc := 922) rw_0_922 rfl (to_c (pc := 924) rw_0_924 (x := (1 : Int32)) rfl rfl (s_addk (pc := 925) rw_0_925 (A := i.toInt) (B := 1) rfl rfl (by omega) (v := v11) e12 (s_x0k (pc := 926) rw_0_926 hL (A := v11.toInt) rfl (by omega) (by omega) (v := v13) e14 (to_an (pc := 927) rw_0_927 rfl (to_i (pc := 928) rw_0_928 rfl (to_c (pc := 930) rw_0_930 (x := (2 : Int32)) rfl rfl (s_addk (pc := 931) rw_0_931 (A := i.toInt) (B := 2) rfl rfl (by omega) (v := v15) e16 (s_x0k (pc := 932) rw_0_932 hL (A := v15.toInt) rfl (by omega) (by omega) (v := v17) e18 ?_)))))))))))
  refine s_i2l (pc := 933) rw_0_933 (fun l45 e46 => to_c (pc := 934) rw_0_934 (x := (32 : Int32)) rfl rfl (s_anyS (pc := 936) rw_0_936 (fun _ _ => rfl) (fun l47 => to_an (pc := 937) rw_0_937 rfl (to_i (pc := 938) rw_0_938 rfl (to_c (pc := 940) rw_0_940 (x := (3 : Int32)) rfl rfl (s_addk (pc := 941) rw_0_941 (A := i.toInt) (B := 3) rfl rfl (by omega) (v := v22) e23 (s_x0k (pc := 942) rw_0_942 hL (A := v22.toInt) rfl (by omega) (by omega) (v := v24) e25 (s_i2l (pc := 943) rw_0_943 (fun l50 e51 => s_cl (pc := 944) rw_0_944 rfl (fun l52 => s_anyL (pc := 947) rw_0_947 (fun _ _ => rfl) (fun l53 => s_anyL (pc := 948) rw_0_948 (fun _ _ => rfl) (fun l54 => ?_))))))))))))
  refine s_v (pc := 949) rw_0_949 (dp0 hd (by decide)) (ls0 := [.ref 77, .int v13, .long l54, .null, .null, .null]) rfl (Nat.le_of_ble_eq_true rfl) (Nat.le_of_ble_eq_true rfl) rfl (to_rc rfl rfl rfl (g_o hG34 rfl)) rfl ?_
  have j_55 := (NJ_f (tg_572 F33) jNJ)
  refine C_208 hX (dp1 hd (by decide)) hG34 j_55 (p := v13) (x := l54) (fun r56 M59 hG58 F57 => ?_)
  have n_60 : M59.1.2.1 = M38.1.2.1 ∧ M59.1.2.2.1 = M38.1.2.2.1 := by rw [F57.1]; exact ⟨rfl, rfl⟩
  refine to_popi (pc := 952) rw_0_952 (to_go (pc := 953) rw_0_953 ?_)
  have c_62 : M59.2.1 77 7 = (M.2.1 77 7) := (F_n F57 (show ¬ (77 = 77 ∧ 7 = 2 ∨ 94 ≤ 77 ∧ 77 ≤ 98) by decide) (F_n F33 (show ¬ (11 ≤ 77 ∧ 77 ≤ 16 ∨ 18 ≤ 77 ∧ 77 ≤ 27 ∨ 36 ≤ 77 ∧ 77 ≤ 48) by decide) rfl))
  have t_63 : (M59.2.1 77 7).toInt = (M.2.1 77 7).toInt := congrArg Int32.toInt c_62
  have c_64 : M59.2.1 77 6 = (M.2.1 77 6) := (F_n F57 (show ¬ (77 = 77 ∧ 6 = 2 ∨ 94 ≤ 77 ∧ 77 ≤ 98) by decide) (F_n F33 (show ¬ (11 ≤ 77 ∧ 77 ≤ 16 ∨ 18 ≤ 77 ∧ 77 ≤ 27 ∨ 36 ≤ 77 ∧ 77 ≤ 48) by decide) rfl))
  have t_65 : (M59.2.1 77 6).toInt = (M.2.1 77 6).toInt := congrArg Int32.toInt c_64
  have c_66 : M59.2.1 1 1 = (M.2.1 1 1) := (F_n F57 (show ¬ (1 = 77 ∧ 1 = 2 ∨ 94 ≤ 1 ∧ 1 ≤ 98) by decide) (F_n F33 (show ¬ (11 ≤ 1 ∧ 1 ≤ 16 ∨ 18 ≤ 1 ∧ 1 ≤ 27 ∨ 36 ≤ 1 ∧ 1 ≤ 48) by decide) rfl))
  have t_67 : (M59.2.1 1 1).toInt = (M.2.1 1 1).toInt := congrArg Int32.toInt c_66
  have c_68 : M59.2.1 77 1 = (M.2.1 77 1) := (F_n F57 (show ¬ (77 = 77 ∧ 1 = 2 ∨ 94 ≤ 77 ∧ 77 ≤ 98) by decide) (F_n F33 (show ¬ (11 ≤ 77 ∧ 77 ≤ 16 ∨ 18 ≤ 77 ∧ 77 ≤ 27 ∨ 36 ≤ 77 ∧ 77 ≤ 48) by decide) rfl))
  have t_69 : (M59.2.1 77 1).toInt = (M.2.1 77 1).toInt := congrArg Int32.toInt c_68
  have c_70 : M59.2.1 0 12 = (M.2.1 0 12) := (F_n F57 (show ¬ (0 = 77 ∧ 12 = 2 ∨ 94 ≤ 0 ∧ 0 ≤ 98) by decide) (F_n F33 (show ¬ (11 ≤ 0 ∧ 0 ≤ 16 ∨ 18 ≤ 0 ∧ 0 ≤ 27 ∨ 36 ≤ 0 ∧ 0 ≤ 48) by decide) rfl))
  have t_71 : (M59.2.1 0 12).toInt = (M.2.1 0 12).toInt := congrArg Int32.toInt c_70
  have c_72 : M59.2.1 77 28 = (M.2.1 77 28) := (F_n F57 (show ¬ (77 = 77 ∧ 28 = 2 ∨ 94 ≤ 77 ∧ 77 ≤ 98) by decide) (F_n F33 (show ¬ (11 ≤ 77 ∧ 77 ≤ 16 ∨ 18 ≤ 77 ∧ 77 ≤ 27 ∨ 36 ≤ 77 ∧ 77 ≤ 48) by decide) rfl))
  have t_73 : (M59.2.1 77 28).toInt = (M.2.1 77 28).toInt := congrArg Int32.toInt c_72
  have c_74 : M59.2.1 17 4 = (M.2.1 17 4) := (F_n F57 (show ¬ (17 = 77 ∧ 4 = 2 ∨ 94 ≤ 17 ∧ 17 ≤ 98) by decide) (F_n F33 (show ¬ (11 ≤ 17 ∧ 17 ≤ 16 ∨ 18 ≤ 17 ∧ 17 ≤ 27 ∨ 36 ≤ 17 ∧ 17 ≤ 48) by decide) rfl))
  have t_75 : (M59.2.1 17 4).toInt = (M.2.1 17 4).toInt := congrArg Int32.toInt c_74
  have c_76 : M59.2.1 77 41 = (M.2.1 77 41) := (F_n F57 (show ¬ (77 = 77 ∧ 41 = 2 ∨ 94 ≤ 77 ∧ 77 ≤ 98) by decide) (F_n F33 (show ¬ (11 ≤ 77 ∧ 77 ≤ 16 ∨ 18 ≤ 77 ∧ 77 ≤ 27 ∨ 36 ≤ 77 ∧ 77 ≤ 48) by decide) rfl))
  have t_77 : (M59.2.1 77 41).toInt = (M.2.1 77 41).toInt := congrArg Int32.toInt c_76
  have c_78 : M59.2.1 6 0 = (M.2.1 6 0) := (F_n F57 (show ¬ (6 = 77 ∧ 0 = 2 ∨ 94 ≤ 6 ∧ 6 ≤ 98) by decide) (F_n F33 (show ¬ (11 ≤ 6 ∧ 6 ≤ 16 ∨ 18 ≤ 6 ∧ 6 ≤ 27 ∨ 36 ≤ 6 ∧ 6 ≤ 48) by decide) rfl))
  have t_79 : (M59.2.1 6 0).toInt = (M.2.1 6 0).toInt := congrArg Int32.toInt c_78
  have c_80 : M59.2.1 77 29 = (M.2.1 77 29) := (F_n F57 (show ¬ (77 = 77 ∧ 29 = 2 ∨ 94 ≤ 77 ∧ 77 ≤ 98) by decide) (F_n F33 (show ¬ (11 ≤ 77 ∧ 77 ≤ 16 ∨ 18 ≤ 77 ∧ 77 ≤ 27 ∨ 36 ≤ 77 ∧ 77 ≤ 48) by decide) rfl))
  have t_81 : (M59.2.1 77 29).toInt = (M.2.1 77 29).toInt := congrArg Int32.toInt c_80
  have c_82 : M59.2.1 28 8 = (M.2.1 28 8) := (F_n F57 (show ¬ (28 = 77 ∧ 8 = 2 ∨ 94 ≤ 28 ∧ 28 ≤ 98) by decide) (F_n F33 (show ¬ (11 ≤ 28 ∧ 28 ≤ 16 ∨ 18 ≤ 28 ∧ 28 ≤ 27 ∨ 36 ≤ 28 ∧ 28 ≤ 48) by decide) rfl))
  have t_83 : (M59.2.1 28 8).toInt = (M.2.1 28 8).toInt := congrArg Int32.toInt c_82
  have c_84 : M59.2.1 77 43 = (M.2.1 77 43) := (F_n F57 (show ¬ (77 = 77 ∧ 43 = 2 ∨ 94 ≤ 77 ∧ 77 ≤ 98) by decide) (F_n F33 (show ¬ (11 ≤ 77 ∧ 77 ≤ 16 ∨ 18 ≤ 77 ∧ 77 ≤ 27 ∨ 36 ≤ 77 ∧ 77 ≤ 48) by decide) rfl))
  have t_85 : (M59.2.1 77 43).toInt = (M.2.1 77 43).toInt := congrArg Int32.toInt c_84
  have c_86 : M59.2.1 28 9 = (M.2.1 28 9) := (F_n F57 (show ¬ (28 = 77 ∧ 9 = 2 ∨ 94 ≤ 28 ∧ 28 ≤ 98) by decide) (F_n F33 (show ¬ (11 ≤ 28 ∧ 28 ≤ 16 ∨ 18 ≤ 28 ∧ 28 ≤ 27 ∨ 36 ≤ 28 ∧ 28 ≤ 48) by decide) rfl))
  have t_87 : (M59.2.1 28 9).toInt = (M.2.1 28 9).toInt := congrArg Int32.toInt c_86
  have c_88 : M59.2.1 77 42 = (M.2.1 77 42) := (F_n F57 (show ¬ (77 = 77 ∧ 42 = 2 ∨ 94 ≤ 77 ∧ 77 ≤ 98) by decide) (F_n F33 (show ¬ (11 ≤ 77 ∧ 77 ≤ 16 ∨ 18 ≤ 77 ∧ 77 ≤ 27 ∨ 36 ≤ 77 ∧ 77 ≤ 48) by decide) rfl))
  have t_89 : (M59.2.1 77 42).toInt = (M.2.1 77 42).toInt := congrArg Int32.toInt c_88
  have j_90 := (PI_f (tg_573 F57) p_35)
  have j_91 := (NI_f (tg_574 F57) p_36)
  have j_92 := (QI_f (tg_575 F57) p_37)
  have j_93 := (PQE_r F57.2.1 (PQE_r F33.2.1 jPQE))
  have j_94 := (FA_f (tg_576 F57) (FA_f (tg_577 F33) jFA))
  have j_95 := (WC_f (tg_578 F57) (WC_f (tg_579 F33) jWC))
  have j_96 := (NJ_f (tg_580 F57) j_55)
  have j_97 := (PS_f (tg_581 F57) (PS_f (tg_582 F33) jPS))
  have j_98 := (KQ_f (tg_583 F57) (KQ_f (tg_584 F33) jKQ))
  have j_99 := (TP_f (tg_585 F57) (TP_f (tg_586 F33) jTP))
  have j_100 := (W9_f (tg_587 F57) (W9_f (tg_588 F33) jW9))
  have j_101 := (AN_F F57 tg_635 (AN_F F33 tg_636 jAN))
  have j_102 := (KNA_F F57 (fun a i z => show ¬ (a = 77 ∧ i = 2 ∨ 94 ≤ a ∧ a ≤ 98) by omega) (KNA_F F33 (fun a i z => show ¬ (11 ≤ a ∧ a ≤ 16 ∨ 18 ≤ a ∧ a ≤ 27 ∨ 36 ≤ a ∧ a ≤ 48) by omega) jKNA))
  have j_103 := (NE_r F57.2.1 (NE_r F33.2.1 jNE))
  have j_104 := (W8_f (tg_589 F57) (W8_f (tg_590 F33) jW8))
  exact h M59 (u5) (u6) ⟨⟨⟨⟨⟨⟨⟨⟨⟨hG58, ⟨j_90, j_91, j_92, j_93⟩, ⟨j_94, j_95, j_96, j_97, j_98⟩, by omega, by omega⟩, j_99, j_100⟩, j_103, by omega⟩, AN_a j_101⟩, by omega⟩, j_104⟩, by omega⟩, j_101⟩, j_102, by omega, by omega⟩ (by omega) (by omega)
set_option maxRecDepth 4000 in
set_option maxHeartbeats 0 in
theorem LW_21 {X : mm_X} {d L : Nat} {M : mm_M} {Q : Option Value → mm_M → Prop} {i : Int32} {u5 u6 : Value} (hX : g_X X) (hW : g_W X) (hW2 : g_W2 X) (hL : (X 0).1 = L) (h3 : L ≤ 3072) (hd : 40 ≤ d) (hi : 0 ≤ i.toInt) (hi2 : i.toInt + 6 ≤ (L : Int)) (H : LI10 M) (h : ∀ (M1 : mm_M) (v5 v6 : Value), LI10 M1 → M1.1.2.1 ≤ M.1.2.1 + 1 → M1.1.2.2.1 ≤ M.1.2.2.1 + 6 → mm_T X d 0 1313 [.ref mm_ext, .ref 0, .ref 77, .ref 125, .int i, v5, v6] [] M1 Q) : mm_T X d 0 956 [.ref mm_ext, .ref 0, .ref 77, .ref 125, .int i, u5, u6] [] M Q := by
  obtain ⟨⟨⟨⟨⟨⟨⟨⟨⟨hG, ⟨jPI, jNI, jQI, jPQE⟩, ⟨jFA, jWC, jNJ, jPS, jKQ⟩, jJ, jE⟩, jTP, jW9⟩, jNE, jCC⟩, -⟩, jOV⟩, jW8⟩, jNN⟩, jAN⟩, jKNA, jDN, jPN⟩ := H
  have b_1 := g_b hG (a := 77) (i := 7) (lo := 0) (hi := 500) rfl rfl
  have b_2 := g_b hG (a := 77) (i := 6) (lo := 0) (hi := 500) rfl rfl
  have b_3 := g_b hG (a := 1) (i := 1) (lo := 0) (hi := 500) rfl rfl
  have b_4 := g_b hG (a := 77) (i := 1) (lo := 0) (hi := 500) rfl rfl
  have b_5 := g_b hG (a := 0) (i := 12) (lo := 0) (hi := 30) rfl rfl
  have b_6 := g_b hG (a := 77) (i := 28) (lo := 0) (hi := 30) rfl rfl
  have b_7 := g_b hG (a := 6) (i := 0) (lo := 0) (hi := 150) rfl rfl
  have b_8 := g_b hG (a := 77) (i := 29) (lo := 0) (hi := 150) rfl rfl
  have b_9 := g_b hG (a := 28) (i := 8) (lo := 0) (hi := 3000) rfl rfl
  have b_10 := g_b hG (a := 77) (i := 43) (lo := 0) (hi := 3000) rfl rfl
  refine to_an (pc := 956) rw_0_956 rfl (s_v (pc := 957) rw_0_957 (dp0 hd (by decide)) (ls0 := [.ref 0, .null]) rfl (Nat.le_of_ble_eq_true rfl) (Nat.le_of_ble_eq_true rfl) rfl (to_rc rfl rfl rfl (g_o hG rfl)) rfl ?_)
  obtain ⟨pz11, pzz11, qz11, qzz11, hpz11, hpzz11, hqz11, hqzz11, hpqz11⟩ := id jPQE
  refine C_130 hX (dp1 hd (by decide)) hG hpz11 hpzz11 hqz11 hqzz11 hpqz11 jPI jNI jQI (p := pz11) (pz := pzz11) (q := qz11) (qz := qzz11) (fun r12 M20 hG14 F13 p_15 p_16 p_17 p_18 p_19 => ?_)
  have n_21 : M20.1.2.1 = M.1.2.1 ∧ M20.1.2.2.1 = M.1.2.2.1 := by rw [F13.1]; exact ⟨rfl, rfl⟩
  refine to_popi (pc := 960) rw_0_960 (to_an (pc := 961) rw_0_961 rfl (s_v (pc := 962) rw_0_962 (dp0 hd (by decide)) (ls0 := [.ref 77, .null]) rfl (Nat.le_of_ble_eq_true rfl) (Nat.le_of_ble_eq_true rfl) rfl (to_rc rfl rfl rfl (g_o hG14 rfl)) rfl ?_))
  have c_23 : M20.2.1 77 28 = (M.2.1 77 28) := (F_n F13 (show ¬ (17 ≤ 77 ∧ 77 ≤ 27) by decide) rfl)
  have t_24 : (M20.2.1 77 28).toInt = (M.2.1 77 28).toInt := congrArg Int32.toInt c_23
  refine C_209 hX (dp1 hd (by decide)) hG14  (fun r25 M31 hG27 F26 p_28 p_29 p_30 => ?_)
  have n_32 : M31.1.2.1 = M20.1.2.1 ∧ M31.1.2.2.1 = M20.1.2.2.1 := by rw [F26.1]; exact ⟨rfl, rfl⟩
  refine to_popi (pc := 965) rw_0_965 (to_go (pc := 966) rw_0_966 ?_)
  have c_34 : M31.2.1 77 7 = (M.2.1 77 7) := (F_n F26 (show ¬ (77 = 77 ∧ (7 = 2 ∨ 7 = 41) ∨ 77 = 99 ∨ 77 = 100) by decide) (F_n F13 (show ¬ (17 ≤ 77 ∧ 77 ≤ 27) by decide) rfl))
  have t_35 : (M31.2.1 77 7).toInt = (M.2.1 77 7).toInt := congrArg Int32.toInt c_34
  have c_36 : M31.2.1 77 6 = (M.2.1 77 6) := (F_n F26 (show ¬ (77 = 77 ∧ (6 = 2 ∨ 6 = 41) ∨ 77 = 99 ∨ 77 = 100) by decide) (F_n F13 (show ¬ (17 ≤ 77 ∧ 77 ≤ 27) by decide) rfl))
  have t_37 : (M31.2.1 77 6).toInt = (M.2.1 77 6).toInt := congrArg Int32.toInt c_36
  have c_38 : M31.2.1 1 1 = (M.2.1 1 1) := (F_n F26 (show ¬ (1 = 77 ∧ (1 = 2 ∨ 1 = 41) ∨ 1 = 99 ∨ 1 = 100) by decide) (F_n F13 (show ¬ (17 ≤ 1 ∧ 1 ≤ 27) by decide) rfl))
  have t_39 : (M31.2.1 1 1).toInt = (M.2.1 1 1).toInt := congrArg Int32.toInt c_38
  have c_40 : M31.2.1 77 1 = (M.2.1 77 1) := (F_n F26 (show ¬ (77 = 77 ∧ (1 = 2 ∨ 1 = 41) ∨ 77 = 99 ∨ 77 = 100) by decide) (F_n F13 (show ¬ (17 ≤ 77 ∧ 77 ≤ 27) by decide) rfl))
  have t_41 : (M31.2.1 77 1).toInt = (M.2.1 77 1).toInt := congrArg Int32.toInt c_40
  have c_42 : M31.2.1 0 12 = (M.2.1 0 12) := (F_n F26 (show ¬ (0 = 77 ∧ (12 = 2 ∨ 12 = 41) ∨ 0 = 99 ∨ 0 = 100) by decide) (F_n F13 (show ¬ (17 ≤ 0 ∧ 0 ≤ 27) by decide) rfl))
  have t_43 : (M31.2.1 0 12).toInt = (M.2.1 0 12).toInt := congrArg Int32.toInt c_42
  have c_44 : M31.2.1 77 28 = (M.2.1 77 28) := (F_n F26 (show ¬ (77 = 77 ∧ (28 = 2 ∨ 28 = 41) ∨ 77 = 99 ∨ 77 = 100) by decide) c_23)
  have t_45 : (M31.2.1 77 28).toInt = (M.2.1 77 28).toInt := congrArg Int32.toInt c_44
  have c_46 : M31.2.1 17 4 = (M20.2.1 17 4) := (F_n F26 (show ¬ (17 = 77 ∧ (4 = 2 ∨ 4 = 41) ∨ 17 = 99 ∨ 17 = 100) by decide) rfl)
  have t_47 : (M31.2.1 17 4).toInt = (M20.2.1 17 4).toInt := congrArg Int32.toInt c_46
  have c_48 : M31.2.1 6 0 = (M.2.1 6 0) := (F_n F26 (show ¬ (6 = 77 ∧ (0 = 2 ∨ 0 = 41) ∨ 6 = 99 ∨ 6 = 100) by decide) (F_n F13 (show ¬ (17 ≤ 6 ∧ 6 ≤ 27) by decide) rfl))
  have t_49 : (M31.2.1 6 0).toInt = (M.2.1 6 0).toInt := congrArg Int32.toInt c_48
  have c_50 : M31.2.1 77 29 = (M.2.1 77 29) := (F_n F26 (show ¬ (77 = 77 ∧ (29 = 2 ∨ 29 = 41) ∨ 77 = 99 ∨ 77 = 100) by decide) (F_n F13 (show ¬ (17 ≤ 77 ∧ 77 ≤ 27) by decide) rfl))
  have t_51 : (M31.2.1 77 29).toInt = (M.2.1 77 29).toInt := congrArg Int32.toInt c_50
  have c_52 : M31.2.1 28 8 = (M.2.1 28 8) := (F_n F26 (show ¬ (28 = 77 ∧ (8 = 2 ∨ 8 = 41) ∨ 28 = 99 ∨ 28 = 100) by decide) (F_n F13 (show ¬ (17 ≤ 28 ∧ 28 ≤ 27) by decide) rfl))
  have t_53 : (M31.2.1 28 8).toInt = (M.2.1 28 8).toInt := congrArg Int32.toInt c_52
  have c_54 : M31.2.1 77 43 = (M.2.1 77 43) := (F_n F26 (show ¬ (77 = 77 ∧ (43 = 2 ∨ 43 = 41) ∨ 77 = 99 ∨ 77 = 100) by decide) (F_n F13 (show ¬ (17 ≤ 77 ∧ 77 ≤ 27) by decide) rfl))
  have t_55 : (M31.2.1 77 43).toInt = (M.2.1 77 43).toInt := congrArg Int32.toInt c_54
  have c_56 : M31.2.1 28 9 = (M.2.1 28 9) := (F_n F26 (show ¬ (28 = 77 ∧ (9 = 2 ∨ 9 = 41) ∨ 28 = 99 ∨ 28 = 100) by decide) (F_n F13 (show ¬ (17 ≤ 28 ∧ 28 ≤ 27) by decide) rfl))
  have t_57 : (M31.2.1 28 9).toInt = (M.2.1 28 9).toInt := congrArg Int32.toInt c_56
  have c_58 : M31.2.1 77 42 = (M.2.1 77 42) := (F_n F26 (show ¬ (77 = 77 ∧ (42 = 2 ∨ 42 = 41) ∨ 77 = 99 ∨ 77 = 100) by decide) (F_n F13 (show ¬ (17 ≤ 77 ∧ 77 ≤ 27) by decide) rfl))
  have t_59 : (M31.2.1 77 42).toInt = (M.2.1 77 42).toInt := congrArg Int32.toInt c_58
  have j_60 := (PI_f (tg_657 F26) p_17)
  have j_61 := (NI_f (tg_658 F26) p_18)
  have j_62 := (QI_f (tg_659 F26) p_19)
  have j_63 := (PQE_r F26.2.1 (PQE_r F13.2.1 jPQE))
  have j_64 := (FA_f (tg_660 F26) (FA_f (tg_661 F13) jFA))
  have j_65 := (WC_f (tg_662 F26) (WC_f (tg_663 F13) jWC))
  have j_66 := (NJ_f (tg_664 F26) (NJ_f (tg_665 F13) jNJ))
  have j_67 := (KQ_f (tg_666 F26) (KQ_f (tg_667 F13) jKQ))
  have j_68 := (TP_f (tg_668 F26) (TP_f (tg_669 F13) jTP))
  have j_69 := (W9_f (tg_670 F26) (W9_f (tg_671 F13) jW9))
  have j_70 := (AN_F F26 tg_743 (AN_F F13 tg_744 jAN))
  have j_71 := (KNA_F F26 (fun a i z => show ¬ (a = 77 ∧ (i = 2 ∨ i = 41) ∨ a = 99 ∨ a = 100) by omega) (KNA_F F13 (fun a i z => show ¬ (17 ≤ a ∧ a ≤ 27) by omega) jKNA))
  have j_72 := (NE_r F26.2.1 (NE_r F13.2.1 jNE))
  have j_73 := (W8_f (tg_672 F26) (W8_f (tg_673 F13) jW8))
  exact h M31 (u5) (u6) ⟨⟨⟨⟨⟨⟨⟨⟨⟨hG27, ⟨j_60, j_61, j_62, j_63⟩, ⟨j_64, j_65, j_66, p_30, j_67⟩, by omega, by omega⟩, j_68, j_69⟩, j_72, by omega⟩, AN_a j_70⟩, by omega⟩, j_73⟩, by omega⟩, j_70⟩, j_71, by omega, by omega⟩ (by omega) (by omega)
set_option maxRecDepth 4000 in
set_option maxHeartbeats 0 in
theorem LW_22 {X : mm_X} {d L : Nat} {M : mm_M} {Q : Option Value → mm_M → Prop} {i : Int32} {u5 u6 : Value} (hX : g_X X) (hW : g_W X) (hW2 : g_W2 X) (hL : (X 0).1 = L) (h3 : L ≤ 3072) (hd : 40 ≤ d) (hi : 0 ≤ i.toInt) (hi2 : i.toInt + 6 ≤ (L : Int)) (H : LI10 M) (h : ∀ (M1 : mm_M) (v5 v6 : Value), LI10 M1 → M1.1.2.1 ≤ M.1.2.1 + 1 → M1.1.2.2.1 ≤ M.1.2.2.1 + 6 → mm_T X d 0 1313 [.ref mm_ext, .ref 0, .ref 77, .ref 125, .int i, v5, v6] [] M1 Q) : mm_T X d 0 969 [.ref mm_ext, .ref 0, .ref 77, .ref 125, .int i, u5, u6] [] M Q := by
  obtain ⟨⟨⟨⟨⟨⟨⟨⟨⟨hG, ⟨jPI, jNI, jQI, jPQE⟩, ⟨jFA, jWC, jNJ, jPS, jKQ⟩, jJ, jE⟩, jTP, jW9⟩, jNE, jCC⟩, -⟩, jOV⟩, jW8⟩, jNN⟩, jAN⟩, jKNA, jDN, jPN⟩ := H
  have b_1 := g_b hG (a := 77) (i := 7) (lo := 0) (hi := 500) rfl rfl
  have b_2 := g_b hG (a := 77) (i := 6) (lo := 0) (hi := 500) rfl rfl
  have b_3 := g_b hG (a := 1) (i := 1) (lo := 0) (hi := 500) rfl rfl
  have b_4 := g_b hG (a := 77) (i := 1) (lo := 0) (hi := 500) rfl rfl
  have b_5 := g_b hG (a := 0) (i := 12) (lo := 0) (hi := 30) rfl rfl
  have b_6 := g_b hG (a := 77) (i := 28) (lo := 0) (hi := 30) rfl rfl
  have b_7 := g_b hG (a := 6) (i := 0) (lo := 0) (hi := 150) rfl rfl
  have b_8 := g_b hG (a := 77) (i := 29) (lo := 0) (hi := 150) rfl rfl
  have b_9 := g_b hG (a := 28) (i := 8) (lo := 0) (hi := 3000) rfl rfl
  have b_10 := g_b hG (a := 77) (i := 43) (lo := 0) (hi := 3000) rfl rfl
  refine to_an (pc := 969) rw_0_969 rfl (to_an (pc := 970) rw_0_970 rfl (to_i (pc := 971) rw_0_971 rfl (to_c (pc := 973) rw_0_973 (x := (1 : Int32)) rfl rfl (s_add (pc := 974) rw_0_974 (A := i.toInt) (B := 1) rfl rfl (by omega) (fun v11 e12 => s_x0 (pc := 975) rw_0_975 hL (A := v11.toInt) rfl (by omega) (by omega) (fun v13 e14 => to_an (pc := 976) rw_0_976 rfl (to_i (pc := 977) rw_0_977 rfl (to_c (pc := 979) rw_0_979 (x := (2 : Int32)) rfl rfl (s_add (pc := 980) rw_0_980 (A := i.toInt) (B := 2) rfl rfl (by omega) (fun v15 e16 => s_x0 (pc := 981) rw_0_981 hL (A := v15.toInt) rfl (by omega) (by omega) (fun v17 e18 => s_v (pc := 982) rw_0_982 (dp0 hd (by decide)) (ls0 := [.ref 0, .int v13, .int v17, .null, .null]) rfl (Nat.le_of_ble_eq_true rfl) (Nat.le_of_ble_eq_true rfl) rfl (to_rc rfl rfl rfl (g_o hG rfl)) rfl ?_)))))))))))
  obtain ⟨pz19, pzz19, qz19, qzz19, hpz19, hpzz19, hqz19, hqzz19, hpqz19⟩ := id jPQE
  refine C_131 hX (dp1 hd (by decide)) hG hpz19 hpzz19 hqz19 hqzz19 hpqz19 jNI jQI (n := v13) (w := v17) (p := pz19) (pz := pzz19) (q := qz19) (qz := qzz19) (fun r20 M23 hG22 F21 => ?_)
  have n_24 : M23.1.2.1 = M.1.2.1 ∧ M23.1.2.2.1 = M.1.2.2.1 := by rw [F21.1]; exact ⟨rfl, rfl⟩
  refine to_popi (pc := 985) rw_0_985 (to_an (pc := 986) rw_0_986 rfl (to_an (pc := 987) rw_0_987 rfl (to_i (pc := 988) rw_0_988 rfl (to_c (pc := 990) rw_0_990 (x := (1 : Int32)) rfl rfl (s_addk (pc := 991) rw_0_991 (A := i.toInt) (B := 1) rfl rfl (by omega) (v := v11) e12 (s_x0k (pc := 992) rw_0_992 hL (A := v11.toInt) rfl (by omega) (by omega) (v := v13) e14 (to_an (pc := 993) rw_0_993 rfl (to_i (pc := 994) rw_0_994 rfl (to_c (pc := 996) rw_0_996 (x := (2 : Int32)) rfl rfl (s_addk (pc := 997) rw_0_997 (A := i.toInt) (B := 2) rfl rfl (by omega) (v := v15) e16 (s_x0k (pc := 998) rw_0_998 hL (A := v15.toInt) rfl (by omega) (by omega) (v := v17) e18 ?_)))))))))))
  refine s_v (pc := 999) rw_0_999 (dp0 hd (by decide)) (ls0 := [.ref 77, .int v13, .int v17, .null, .null, .null]) rfl (Nat.le_of_ble_eq_true rfl) (Nat.le_of_ble_eq_true rfl) rfl (to_rc rfl rfl rfl (g_o hG22 rfl)) rfl ?_
  have j_30 := (NJ_f (tg_674 F21) jNJ)
  have j_31 := (KQ_f (tg_675 F21) jKQ)
  refine C_229 hX (dp1 hd (by decide)) hG22 j_30 j_31 (n := v13) (w := v17) (fun r32 M35 hG34 F33 => ?_)
  have n_36 : M35.1.2.1 = M23.1.2.1 ∧ M35.1.2.2.1 = M23.1.2.2.1 := by rw [F33.1]; exact ⟨rfl, rfl⟩
  refine to_popi (pc := 1002) rw_0_1002 (to_go (pc := 1003) rw_0_1003 ?_)
  have c_38 : M35.2.1 77 7 = (M.2.1 77 7) := (F_n F33 (show ¬ (77 = 77 ∧ 7 = 2 ∨ 94 ≤ 77 ∧ 77 ≤ 98 ∨ 77 = 117) by decide) (F_n F21 (show ¬ (11 ≤ 77 ∧ 77 ≤ 16 ∨ 77 = 71 ∨ 77 = 76) by decide) rfl))
  have t_39 : (M35.2.1 77 7).toInt = (M.2.1 77 7).toInt := congrArg Int32.toInt c_38
  have c_40 : M35.2.1 77 6 = (M.2.1 77 6) := (F_n F33 (show ¬ (77 = 77 ∧ 6 = 2 ∨ 94 ≤ 77 ∧ 77 ≤ 98 ∨ 77 = 117) by decide) (F_n F21 (show ¬ (11 ≤ 77 ∧ 77 ≤ 16 ∨ 77 = 71 ∨ 77 = 76) by decide) rfl))
  have t_41 : (M35.2.1 77 6).toInt = (M.2.1 77 6).toInt := congrArg Int32.toInt c_40
  have c_42 : M35.2.1 1 1 = (M.2.1 1 1) := (F_n F33 (show ¬ (1 = 77 ∧ 1 = 2 ∨ 94 ≤ 1 ∧ 1 ≤ 98 ∨ 1 = 117) by decide) (F_n F21 (show ¬ (11 ≤ 1 ∧ 1 ≤ 16 ∨ 1 = 71 ∨ 1 = 76) by decide) rfl))
  have t_43 : (M35.2.1 1 1).toInt = (M.2.1 1 1).toInt := congrArg Int32.toInt c_42
  have c_44 : M35.2.1 77 1 = (M.2.1 77 1) := (F_n F33 (show ¬ (77 = 77 ∧ 1 = 2 ∨ 94 ≤ 77 ∧ 77 ≤ 98 ∨ 77 = 117) by decide) (F_n F21 (show ¬ (11 ≤ 77 ∧ 77 ≤ 16 ∨ 77 = 71 ∨ 77 = 76) by decide) rfl))
  have t_45 : (M35.2.1 77 1).toInt = (M.2.1 77 1).toInt := congrArg Int32.toInt c_44
  have c_46 : M35.2.1 0 12 = (M.2.1 0 12) := (F_n F33 (show ¬ (0 = 77 ∧ 12 = 2 ∨ 94 ≤ 0 ∧ 0 ≤ 98 ∨ 0 = 117) by decide) (F_n F21 (show ¬ (11 ≤ 0 ∧ 0 ≤ 16 ∨ 0 = 71 ∨ 0 = 76) by decide) rfl))
  have t_47 : (M35.2.1 0 12).toInt = (M.2.1 0 12).toInt := congrArg Int32.toInt c_46
  have c_48 : M35.2.1 77 28 = (M.2.1 77 28) := (F_n F33 (show ¬ (77 = 77 ∧ 28 = 2 ∨ 94 ≤ 77 ∧ 77 ≤ 98 ∨ 77 = 117) by decide) (F_n F21 (show ¬ (11 ≤ 77 ∧ 77 ≤ 16 ∨ 77 = 71 ∨ 77 = 76) by decide) rfl))
  have t_49 : (M35.2.1 77 28).toInt = (M.2.1 77 28).toInt := congrArg Int32.toInt c_48
  have c_50 : M35.2.1 17 4 = (M.2.1 17 4) := (F_n F33 (show ¬ (17 = 77 ∧ 4 = 2 ∨ 94 ≤ 17 ∧ 17 ≤ 98 ∨ 17 = 117) by decide) (F_n F21 (show ¬ (11 ≤ 17 ∧ 17 ≤ 16 ∨ 17 = 71 ∨ 17 = 76) by decide) rfl))
  have t_51 : (M35.2.1 17 4).toInt = (M.2.1 17 4).toInt := congrArg Int32.toInt c_50
  have c_52 : M35.2.1 77 41 = (M.2.1 77 41) := (F_n F33 (show ¬ (77 = 77 ∧ 41 = 2 ∨ 94 ≤ 77 ∧ 77 ≤ 98 ∨ 77 = 117) by decide) (F_n F21 (show ¬ (11 ≤ 77 ∧ 77 ≤ 16 ∨ 77 = 71 ∨ 77 = 76) by decide) rfl))
  have t_53 : (M35.2.1 77 41).toInt = (M.2.1 77 41).toInt := congrArg Int32.toInt c_52
  have c_54 : M35.2.1 6 0 = (M.2.1 6 0) := (F_n F33 (show ¬ (6 = 77 ∧ 0 = 2 ∨ 94 ≤ 6 ∧ 6 ≤ 98 ∨ 6 = 117) by decide) (F_n F21 (show ¬ (11 ≤ 6 ∧ 6 ≤ 16 ∨ 6 = 71 ∨ 6 = 76) by decide) rfl))
  have t_55 : (M35.2.1 6 0).toInt = (M.2.1 6 0).toInt := congrArg Int32.toInt c_54
  have c_56 : M35.2.1 77 29 = (M.2.1 77 29) := (F_n F33 (show ¬ (77 = 77 ∧ 29 = 2 ∨ 94 ≤ 77 ∧ 77 ≤ 98 ∨ 77 = 117) by decide) (F_n F21 (show ¬ (11 ≤ 77 ∧ 77 ≤ 16 ∨ 77 = 71 ∨ 77 = 76) by decide) rfl))
  have t_57 : (M35.2.1 77 29).toInt = (M.2.1 77 29).toInt := congrArg Int32.toInt c_56
  have c_58 : M35.2.1 28 8 = (M.2.1 28 8) := (F_n F33 (show ¬ (28 = 77 ∧ 8 = 2 ∨ 94 ≤ 28 ∧ 28 ≤ 98 ∨ 28 = 117) by decide) (F_n F21 (show ¬ (11 ≤ 28 ∧ 28 ≤ 16 ∨ 28 = 71 ∨ 28 = 76) by decide) rfl))
  have t_59 : (M35.2.1 28 8).toInt = (M.2.1 28 8).toInt := congrArg Int32.toInt c_58
  have c_60 : M35.2.1 77 43 = (M.2.1 77 43) := (F_n F33 (show ¬ (77 = 77 ∧ 43 = 2 ∨ 94 ≤ 77 ∧ 77 ≤ 98 ∨ 77 = 117) by decide) (F_n F21 (show ¬ (11 ≤ 77 ∧ 77 ≤ 16 ∨ 77 = 71 ∨ 77 = 76) by decide) rfl))
  have t_61 : (M35.2.1 77 43).toInt = (M.2.1 77 43).toInt := congrArg Int32.toInt c_60
  have c_62 : M35.2.1 28 9 = (M.2.1 28 9) := (F_n F33 (show ¬ (28 = 77 ∧ 9 = 2 ∨ 94 ≤ 28 ∧ 28 ≤ 98 ∨ 28 = 117) by decide) (F_n F21 (show ¬ (11 ≤ 28 ∧ 28 ≤ 16 ∨ 28 = 71 ∨ 28 = 76) by decide) rfl))
  have t_63 : (M35.2.1 28 9).toInt = (M.2.1 28 9).toInt := congrArg Int32.toInt c_62
  have c_64 : M35.2.1 77 42 = (M.2.1 77 42) := (F_n F33 (show ¬ (77 = 77 ∧ 42 = 2 ∨ 94 ≤ 77 ∧ 77 ≤ 98 ∨ 77 = 117) by decide) (F_n F21 (show ¬ (11 ≤ 77 ∧ 77 ≤ 16 ∨ 77 = 71 ∨ 77 = 76) by decide) rfl))
  have t_65 : (M35.2.1 77 42).toInt = (M.2.1 77 42).toInt := congrArg Int32.toInt c_64
  have j_66 := (PI_f (tg_676 F33) (PI_f (tg_677 F21) jPI))
  have j_67 := (NI_f (tg_678 F33) (NI_f (tg_679 F21) jNI))
  have j_68 := (QI_f (tg_680 F33) (QI_f (tg_681 F21) jQI))
  have j_69 := (PQE_r F33.2.1 (PQE_r F21.2.1 jPQE))
  have j_70 := (FA_f (tg_682 F33) (FA_f (tg_683 F21) jFA))
  have j_71 := (WC_f (tg_684 F33) (WC_f (tg_685 F21) jWC))
  have j_72 := (NJ_f (tg_686 F33) j_30)
  have j_73 := (PS_f (tg_687 F33) (PS_f (tg_688 F21) jPS))
  have j_74 := (KQ_f (tg_689 F33) j_31)
  have j_75 := (TP_f (tg_690 F33) (TP_f (tg_691 F21) jTP))
  have j_76 := (W9_f (tg_692 F33) (W9_f (tg_693 F21) jW9))
  have j_77 := (AN_F F33 tg_745 (AN_F F21 tg_746 jAN))
  have j_78 := (KNA_F F33 (fun a i z => show ¬ (a = 77 ∧ i = 2 ∨ 94 ≤ a ∧ a ≤ 98 ∨ a = 117) by omega) (KNA_F F21 (fun a i z => show ¬ (11 ≤ a ∧ a ≤ 16 ∨ a = 71 ∨ a = 76) by omega) jKNA))
  have j_79 := (NE_r F33.2.1 (NE_r F21.2.1 jNE))
  have j_80 := (W8_f (tg_694 F33) (W8_f (tg_695 F21) jW8))
  exact h M35 (u5) (u6) ⟨⟨⟨⟨⟨⟨⟨⟨⟨hG34, ⟨j_66, j_67, j_68, j_69⟩, ⟨j_70, j_71, j_72, j_73, j_74⟩, by omega, by omega⟩, j_75, j_76⟩, j_79, by omega⟩, AN_a j_77⟩, by omega⟩, j_80⟩, by omega⟩, j_77⟩, j_78, by omega, by omega⟩ (by omega) (by omega)
set_option maxRecDepth 4000 in
set_option maxHeartbeats 0 in
theorem LW_23 {X : mm_X} {d L : Nat} {M : mm_M} {Q : Option Value → mm_M → Prop} {i : Int32} {u5 u6 : Value} (hX : g_X X) (hW : g_W X) (hW2 : g_W2 X) (hL : (X 0).1 = L) (h3 : L ≤ 3072) (hd : 40 ≤ d) (hi : 0 ≤ i.toInt) (hi2 : i.toInt + 6 ≤ (L : Int)) (H : LI10 M) (h : ∀ (M1 : mm_M) (v5 v6 : Value), LI10 M1 → M1.1.2.1 ≤ M.1.2.1 + 1 → M1.1.2.2.1 ≤ M.1.2.2.1 + 6 → mm_T X d 0 1313 [.ref mm_ext, .ref 0, .ref 77, .ref 125, .int i, v5, v6] [] M1 Q) : mm_T X d 0 1006 [.ref mm_ext, .ref 0, .ref 77, .ref 125, .int i, u5, u6] [] M Q := by
  obtain ⟨⟨⟨⟨⟨⟨⟨⟨⟨hG, ⟨jPI, jNI, jQI, jPQE⟩, ⟨jFA, jWC, jNJ, jPS, jKQ⟩, jJ, jE⟩, jTP, jW9⟩, jNE, jCC⟩, -⟩, jOV⟩, jW8⟩, jNN⟩, jAN⟩, jKNA, jDN, jPN⟩ := H
  have b_1 := g_b hG (a := 77) (i := 7) (lo := 0) (hi := 500) rfl rfl
  have b_2 := g_b hG (a := 77) (i := 6) (lo := 0) (hi := 500) rfl rfl
  have b_3 := g_b hG (a := 1) (i := 1) (lo := 0) (hi := 500) rfl rfl
  have b_4 := g_b hG (a := 77) (i := 1) (lo := 0) (hi := 500) rfl rfl
  have b_5 := g_b hG (a := 0) (i := 12) (lo := 0) (hi := 30) rfl rfl
  have b_6 := g_b hG (a := 77) (i := 28) (lo := 0) (hi := 30) rfl rfl
  have b_7 := g_b hG (a := 6) (i := 0) (lo := 0) (hi := 150) rfl rfl
  have b_8 := g_b hG (a := 77) (i := 29) (lo := 0) (hi := 150) rfl rfl
  have b_9 := g_b hG (a := 28) (i := 8) (lo := 0) (hi := 3000) rfl rfl
  have b_10 := g_b hG (a := 77) (i := 43) (lo := 0) (hi := 3000) rfl rfl
  refine to_an (pc := 1006) rw_0_1006 rfl (to_an (pc := 1007) rw_0_1007 rfl (to_i (pc := 1008) rw_0_1008 rfl (to_c (pc := 1010) rw_0_1010 (x := (1 : Int32)) rfl rfl (s_add (pc := 1011) rw_0_1011 (A := i.toInt) (B := 1) rfl rfl (by omega) (fun v11 e12 => s_x0 (pc := 1012) rw_0_1012 hL (A := v11.toInt) rfl (by omega) (by omega) (fun v13 e14 => to_an (pc := 1013) rw_0_1013 rfl (to_i (pc := 1014) rw_0_1014 rfl (to_c (pc := 1016) rw_0_1016 (x := (2 : Int32)) rfl rfl (s_add (pc := 1017) rw_0_1017 (A := i.toInt) (B := 2) rfl rfl (by omega) (fun v15 e16 => s_x0 (pc := 1018) rw_0_1018 hL (A := v15.toInt) rfl (by omega) (by omega) (fun v17 e18 => to_an (pc := 1019) rw_0_1019 rfl ?_)))))))))))
  refine to_i (pc := 1020) rw_0_1020 rfl (to_c (pc := 1022) rw_0_1022 (x := (3 : Int32)) rfl rfl (s_add (pc := 1023) rw_0_1023 (A := i.toInt) (B := 3) rfl rfl (by omega) (fun v19 e20 => s_x0 (pc := 1024) rw_0_1024 hL (A := v19.toInt) rfl (by omega) (by omega) (fun v21 e22 => s_v (pc := 1025) rw_0_1025 (dp0 hd (by decide)) (ls0 := [.ref 0, .int v13, .int v17, .int v21, .null, .null, .null, .null, .null]) rfl (Nat.le_of_ble_eq_true rfl) (Nat.le_of_ble_eq_true rfl) rfl (to_rc rfl rfl rfl (g_o hG rfl)) rfl ?_))))
  obtain ⟨pz23, pzz23, qz23, qzz23, hpz23, hpzz23, hqz23, hqzz23, hpqz23⟩ := id jPQE
  refine C_132 hX (dp1 hd (by decide)) hG hpz23 hpzz23 hqz23 hqzz23 hpqz23 jNI jPI jQI (n := v13) (w := v17) (k := v21) (p := pz23) (pz := pzz23) (q := qz23) (qz := qzz23) (fun r24 M30 hG26 F25 p_27 p_28 p_29 => ?_)
  have n_31 : M30.1.2.1 = M.1.2.1 ∧ M30.1.2.2.1 = M.1.2.2.1 := by rw [F25.1]; exact ⟨rfl, rfl⟩
  refine s_pop2 (pc := 1028) rw_0_1028 (to_an (pc := 1029) rw_0_1029 rfl (to_an (pc := 1030) rw_0_1030 rfl (to_i (pc := 1031) rw_0_1031 rfl (to_c (pc := 1033) rw_0_1033 (x := (1 : Int32)) rfl rfl (s_addk (pc := 1034) rw_0_1034 (A := i.toInt) (B := 1) rfl rfl (by omega) (v := v11) e12 (s_x0k (pc := 1035) rw_0_1035 hL (A := v11.toInt) rfl (by omega) (by omega) (v := v13) e14 (to_an (pc := 1036) rw_0_1036 rfl (to_i (pc := 1037) rw_0_1037 rfl (to_c (pc := 1039) rw_0_1039 (x := (2 : Int32)) rfl rfl (s_addk (pc := 1040) rw_0_1040 (A := i.toInt) (B := 2) rfl rfl (by omega) (v := v15) e16 (s_x0k (pc := 1041) rw_0_1041 hL (A := v15.toInt) rfl (by omega) (by omega) (v := v17) e18 ?_)))))))))))
  refine to_an (pc := 1042) rw_0_1042 rfl (to_i (pc := 1043) rw_0_1043 rfl (to_c (pc := 1045) rw_0_1045 (x := (3 : Int32)) rfl rfl (s_addk (pc := 1046) rw_0_1046 (A := i.toInt) (B := 3) rfl rfl (by omega) (v := v19) e20 (s_x0k (pc := 1047) rw_0_1047 hL (A := v19.toInt) rfl (by omega) (by omega) (v := v21) e22 (s_v (pc := 1048) rw_0_1048 (dp0 hd (by decide)) (ls0 := [.ref 77, .int v13, .int v17, .int v21, .null, .null, .null, .null]) rfl (Nat.le_of_ble_eq_true rfl) (Nat.le_of_ble_eq_true rfl) rfl (to_rc rfl rfl rfl (g_o hG26 rfl)) rfl ?_)))))
  have j_39 := (NJ_f (tg_572 F25) jNJ)
  refine C_233 hX (dp1 hd (by decide)) hG26 j_39 (n := v13) (w := v17) (k := v21) (fun r40 M43 hG42 F41 => ?_)
  have n_44 : M43.1.2.1 = M30.1.2.1 ∧ M43.1.2.2.1 = M30.1.2.2.1 := by rw [F41.1]; exact ⟨rfl, rfl⟩
  refine s_pop2 (pc := 1051) rw_0_1051 (to_go (pc := 1052) rw_0_1052 ?_)
  have c_46 : M43.2.1 77 7 = (M.2.1 77 7) := (F_n F41 (show ¬ (77 = 77 ∧ 7 = 2 ∨ 94 ≤ 77 ∧ 77 ≤ 98) by decide) (F_n F25 (show ¬ (11 ≤ 77 ∧ 77 ≤ 16 ∨ 18 ≤ 77 ∧ 77 ≤ 27 ∨ 36 ≤ 77 ∧ 77 ≤ 48) by decide) rfl))
  have t_47 : (M43.2.1 77 7).toInt = (M.2.1 77 7).toInt := congrArg Int32.toInt c_46
  have c_48 : M43.2.1 77 6 = (M.2.1 77 6) := (F_n F41 (show ¬ (77 = 77 ∧ 6 = 2 ∨ 94 ≤ 77 ∧ 77 ≤ 98) by decide) (F_n F25 (show ¬ (11 ≤ 77 ∧ 77 ≤ 16 ∨ 18 ≤ 77 ∧ 77 ≤ 27 ∨ 36 ≤ 77 ∧ 77 ≤ 48) by decide) rfl))
  have t_49 : (M43.2.1 77 6).toInt = (M.2.1 77 6).toInt := congrArg Int32.toInt c_48
  have c_50 : M43.2.1 1 1 = (M.2.1 1 1) := (F_n F41 (show ¬ (1 = 77 ∧ 1 = 2 ∨ 94 ≤ 1 ∧ 1 ≤ 98) by decide) (F_n F25 (show ¬ (11 ≤ 1 ∧ 1 ≤ 16 ∨ 18 ≤ 1 ∧ 1 ≤ 27 ∨ 36 ≤ 1 ∧ 1 ≤ 48) by decide) rfl))
  have t_51 : (M43.2.1 1 1).toInt = (M.2.1 1 1).toInt := congrArg Int32.toInt c_50
  have c_52 : M43.2.1 77 1 = (M.2.1 77 1) := (F_n F41 (show ¬ (77 = 77 ∧ 1 = 2 ∨ 94 ≤ 77 ∧ 77 ≤ 98) by decide) (F_n F25 (show ¬ (11 ≤ 77 ∧ 77 ≤ 16 ∨ 18 ≤ 77 ∧ 77 ≤ 27 ∨ 36 ≤ 77 ∧ 77 ≤ 48) by decide) rfl))
  have t_53 : (M43.2.1 77 1).toInt = (M.2.1 77 1).toInt := congrArg Int32.toInt c_52
  have c_54 : M43.2.1 0 12 = (M.2.1 0 12) := (F_n F41 (show ¬ (0 = 77 ∧ 12 = 2 ∨ 94 ≤ 0 ∧ 0 ≤ 98) by decide) (F_n F25 (show ¬ (11 ≤ 0 ∧ 0 ≤ 16 ∨ 18 ≤ 0 ∧ 0 ≤ 27 ∨ 36 ≤ 0 ∧ 0 ≤ 48) by decide) rfl))
  have t_55 : (M43.2.1 0 12).toInt = (M.2.1 0 12).toInt := congrArg Int32.toInt c_54
  have c_56 : M43.2.1 77 28 = (M.2.1 77 28) := (F_n F41 (show ¬ (77 = 77 ∧ 28 = 2 ∨ 94 ≤ 77 ∧ 77 ≤ 98) by decide) (F_n F25 (show ¬ (11 ≤ 77 ∧ 77 ≤ 16 ∨ 18 ≤ 77 ∧ 77 ≤ 27 ∨ 36 ≤ 77 ∧ 77 ≤ 48) by decide) rfl))
  have t_57 : (M43.2.1 77 28).toInt = (M.2.1 77 28).toInt := congrArg Int32.toInt c_56
  have c_58 : M43.2.1 17 4 = (M.2.1 17 4) := (F_n F41 (show ¬ (17 = 77 ∧ 4 = 2 ∨ 94 ≤ 17 ∧ 17 ≤ 98) by decide) (F_n F25 (show ¬ (11 ≤ 17 ∧ 17 ≤ 16 ∨ 18 ≤ 17 ∧ 17 ≤ 27 ∨ 36 ≤ 17 ∧ 17 ≤ 48) by decide) rfl))
  have t_59 : (M43.2.1 17 4).toInt = (M.2.1 17 4).toInt := congrArg Int32.toInt c_58
  have c_60 : M43.2.1 77 41 = (M.2.1 77 41) := (F_n F41 (show ¬ (77 = 77 ∧ 41 = 2 ∨ 94 ≤ 77 ∧ 77 ≤ 98) by decide) (F_n F25 (show ¬ (11 ≤ 77 ∧ 77 ≤ 16 ∨ 18 ≤ 77 ∧ 77 ≤ 27 ∨ 36 ≤ 77 ∧ 77 ≤ 48) by decide) rfl))
  have t_61 : (M43.2.1 77 41).toInt = (M.2.1 77 41).toInt := congrArg Int32.toInt c_60
  have c_62 : M43.2.1 6 0 = (M.2.1 6 0) := (F_n F41 (show ¬ (6 = 77 ∧ 0 = 2 ∨ 94 ≤ 6 ∧ 6 ≤ 98) by decide) (F_n F25 (show ¬ (11 ≤ 6 ∧ 6 ≤ 16 ∨ 18 ≤ 6 ∧ 6 ≤ 27 ∨ 36 ≤ 6 ∧ 6 ≤ 48) by decide) rfl))
  have t_63 : (M43.2.1 6 0).toInt = (M.2.1 6 0).toInt := congrArg Int32.toInt c_62
  have c_64 : M43.2.1 77 29 = (M.2.1 77 29) := (F_n F41 (show ¬ (77 = 77 ∧ 29 = 2 ∨ 94 ≤ 77 ∧ 77 ≤ 98) by decide) (F_n F25 (show ¬ (11 ≤ 77 ∧ 77 ≤ 16 ∨ 18 ≤ 77 ∧ 77 ≤ 27 ∨ 36 ≤ 77 ∧ 77 ≤ 48) by decide) rfl))
  have t_65 : (M43.2.1 77 29).toInt = (M.2.1 77 29).toInt := congrArg Int32.toInt c_64
  have c_66 : M43.2.1 28 8 = (M.2.1 28 8) := (F_n F41 (show ¬ (28 = 77 ∧ 8 = 2 ∨ 94 ≤ 28 ∧ 28 ≤ 98) by decide) (F_n F25 (show ¬ (11 ≤ 28 ∧ 28 ≤ 16 ∨ 18 ≤ 28 ∧ 28 ≤ 27 ∨ 36 ≤ 28 ∧ 28 ≤ 48) by decide) rfl))
  have t_67 : (M43.2.1 28 8).toInt = (M.2.1 28 8).toInt := congrArg Int32.toInt c_66
  have c_68 : M43.2.1 77 43 = (M.2.1 77 43) := (F_n F41 (show ¬ (77 = 77 ∧ 43 = 2 ∨ 94 ≤ 77 ∧ 77 ≤ 98) by decide) (F_n F25 (show ¬ (11 ≤ 77 ∧ 77 ≤ 16 ∨ 18 ≤ 77 ∧ 77 ≤ 27 ∨ 36 ≤ 77 ∧ 77 ≤ 48) by decide) rfl))
  have t_69 : (M43.2.1 77 43).toInt = (M.2.1 77 43).toInt := congrArg Int32.toInt c_68
  have c_70 : M43.2.1 28 9 = (M.2.1 28 9) := (F_n F41 (show ¬ (28 = 77 ∧ 9 = 2 ∨ 94 ≤ 28 ∧ 28 ≤ 98) by decide) (F_n F25 (show ¬ (11 ≤ 28 ∧ 28 ≤ 16 ∨ 18 ≤ 28 ∧ 28 ≤ 27 ∨ 36 ≤ 28 ∧ 28 ≤ 48) by decide) rfl))
  have t_71 : (M43.2.1 28 9).toInt = (M.2.1 28 9).toInt := congrArg Int32.toInt c_70
  have c_72 : M43.2.1 77 42 = (M.2.1 77 42) := (F_n F41 (show ¬ (77 = 77 ∧ 42 = 2 ∨ 94 ≤ 77 ∧ 77 ≤ 98) by decide) (F_n F25 (show ¬ (11 ≤ 77 ∧ 77 ≤ 16 ∨ 18 ≤ 77 ∧ 77 ≤ 27 ∨ 36 ≤ 77 ∧ 77 ≤ 48) by decide) rfl))
  have t_73 : (M43.2.1 77 42).toInt = (M.2.1 77 42).toInt := congrArg Int32.toInt c_72
  have j_74 := (PI_f (tg_573 F41) p_27)
  have j_75 := (NI_f (tg_574 F41) p_28)
  have j_76 := (QI_f (tg_575 F41) p_29)
  have j_77 := (PQE_r F41.2.1 (PQE_r F25.2.1 jPQE))
  have j_78 := (FA_f (tg_576 F41) (FA_f (tg_577 F25) jFA))
  have j_79 := (WC_f (tg_578 F41) (WC_f (tg_579 F25) jWC))
  have j_80 := (NJ_f (tg_580 F41) j_39)
  have j_81 := (PS_f (tg_581 F41) (PS_f (tg_582 F25) jPS))
  have j_82 := (KQ_f (tg_583 F41) (KQ_f (tg_584 F25) jKQ))
  have j_83 := (TP_f (tg_585 F41) (TP_f (tg_586 F25) jTP))
  have j_84 := (W9_f (tg_587 F41) (W9_f (tg_588 F25) jW9))
  have j_85 := (AN_F F41 tg_635 (AN_F F25 tg_636 jAN))
  have j_86 := (KNA_F F41 (fun a i z => show ¬ (a = 77 ∧ i = 2 ∨ 94 ≤ a ∧ a ≤ 98) by omega) (KNA_F F25 (fun a i z => show ¬ (11 ≤ a ∧ a ≤ 16 ∨ 18 ≤ a ∧ a ≤ 27 ∨ 36 ≤ a ∧ a ≤ 48) by omega) jKNA))
  have j_87 := (NE_r F41.2.1 (NE_r F25.2.1 jNE))
  have j_88 := (W8_f (tg_589 F41) (W8_f (tg_590 F25) jW8))
  exact h M43 (u5) (u6) ⟨⟨⟨⟨⟨⟨⟨⟨⟨hG42, ⟨j_74, j_75, j_76, j_77⟩, ⟨j_78, j_79, j_80, j_81, j_82⟩, by omega, by omega⟩, j_83, j_84⟩, j_87, by omega⟩, AN_a j_85⟩, by omega⟩, j_88⟩, by omega⟩, j_85⟩, j_86, by omega, by omega⟩ (by omega) (by omega)
set_option maxRecDepth 4000 in
set_option maxHeartbeats 0 in
theorem LW_24 {X : mm_X} {d L : Nat} {M : mm_M} {Q : Option Value → mm_M → Prop} {i : Int32} {u5 u6 : Value} (hX : g_X X) (hW : g_W X) (hW2 : g_W2 X) (hL : (X 0).1 = L) (h3 : L ≤ 3072) (hd : 40 ≤ d) (hi : 0 ≤ i.toInt) (hi2 : i.toInt + 6 ≤ (L : Int)) (H : LI10 M) (h : ∀ (M1 : mm_M) (v5 v6 : Value), LI10 M1 → M1.1.2.1 ≤ M.1.2.1 + 1 → M1.1.2.2.1 ≤ M.1.2.2.1 + 6 → mm_T X d 0 1313 [.ref mm_ext, .ref 0, .ref 77, .ref 125, .int i, v5, v6] [] M1 Q) : mm_T X d 0 1055 [.ref mm_ext, .ref 0, .ref 77, .ref 125, .int i, u5, u6] [] M Q := by
  obtain ⟨⟨⟨⟨⟨⟨⟨⟨⟨hG, ⟨jPI, jNI, jQI, jPQE⟩, ⟨jFA, jWC, jNJ, jPS, jKQ⟩, jJ, jE⟩, jTP, jW9⟩, jNE, jCC⟩, -⟩, jOV⟩, jW8⟩, jNN⟩, jAN⟩, jKNA, jDN, jPN⟩ := H
  have b_1 := g_b hG (a := 77) (i := 7) (lo := 0) (hi := 500) rfl rfl
  have b_2 := g_b hG (a := 77) (i := 6) (lo := 0) (hi := 500) rfl rfl
  have b_3 := g_b hG (a := 1) (i := 1) (lo := 0) (hi := 500) rfl rfl
  have b_4 := g_b hG (a := 77) (i := 1) (lo := 0) (hi := 500) rfl rfl
  have b_5 := g_b hG (a := 0) (i := 12) (lo := 0) (hi := 30) rfl rfl
  have b_6 := g_b hG (a := 77) (i := 28) (lo := 0) (hi := 30) rfl rfl
  have b_7 := g_b hG (a := 6) (i := 0) (lo := 0) (hi := 150) rfl rfl
  have b_8 := g_b hG (a := 77) (i := 29) (lo := 0) (hi := 150) rfl rfl
  have b_9 := g_b hG (a := 28) (i := 8) (lo := 0) (hi := 3000) rfl rfl
  have b_10 := g_b hG (a := 77) (i := 43) (lo := 0) (hi := 3000) rfl rfl
  refine to_an (pc := 1055) rw_0_1055 rfl (to_an (pc := 1056) rw_0_1056 rfl (to_i (pc := 1057) rw_0_1057 rfl (to_c (pc := 1059) rw_0_1059 (x := (1 : Int32)) rfl rfl (s_add (pc := 1060) rw_0_1060 (A := i.toInt) (B := 1) rfl rfl (by omega) (fun v11 e12 => s_x0 (pc := 1061) rw_0_1061 hL (A := v11.toInt) rfl (by omega) (by omega) (fun v13 e14 => to_an (pc := 1062) rw_0_1062 rfl (to_i (pc := 1063) rw_0_1063 rfl (to_c (pc := 1065) rw_0_1065 (x := (2 : Int32)) rfl rfl (s_add (pc := 1066) rw_0_1066 (A := i.toInt) (B := 2) rfl rfl (by omega) (fun v15 e16 => s_x0 (pc := 1067) rw_0_1067 hL (A := v15.toInt) rfl (by omega) (by omega) (fun v17 e18 => s_v (pc := 1068) rw_0_1068 (dp0 hd (by decide)) (ls0 := [.ref 0, .int v13, .int v17, .null, .null]) rfl (Nat.le_of_ble_eq_true rfl) (Nat.le_of_ble_eq_true rfl) rfl (to_rc rfl rfl rfl (g_o hG rfl)) rfl ?_)))))))))))
  obtain ⟨pz19, pzz19, qz19, qzz19, hpz19, hpzz19, hqz19, hqzz19, hpqz19⟩ := id jPQE
  refine C_133 hX (dp1 hd (by decide)) hG hpz19 hpzz19 hqz19 hqzz19 hpqz19 jNI jPI jQI (n := v13) (w := v17) (p := pz19) (pz := pzz19) (q := qz19) (qz := qzz19) (fun r20 M26 hG22 F21 p_23 p_24 p_25 => ?_)
  have n_27 : M26.1.2.1 = M.1.2.1 ∧ M26.1.2.2.1 = M.1.2.2.1 := by rw [F21.1]; exact ⟨rfl, rfl⟩
  refine to_popi (pc := 1071) rw_0_1071 (to_an (pc := 1072) rw_0_1072 rfl (to_an (pc := 1073) rw_0_1073 rfl (to_i (pc := 1074) rw_0_1074 rfl (to_c (pc := 1076) rw_0_1076 (x := (1 : Int32)) rfl rfl (s_addk (pc := 1077) rw_0_1077 (A := i.toInt) (B := 1) rfl rfl (by omega) (v := v11) e12 (s_x0k (pc := 1078) rw_0_1078 hL (A := v11.toInt) rfl (by omega) (by omega) (v := v13) e14 (to_an (pc := 1079) rw_0_1079 rfl (to_i (pc := 1080) rw_0_1080 rfl (to_c (pc := 1082) rw_0_1082 (x := (2 : Int32)) rfl rfl (s_addk (pc := 1083) rw_0_1083 (A := i.toInt) (B := 2) rfl rfl (by omega) (v := v15) e16 (s_x0k (pc := 1084) rw_0_1084 hL (A := v15.toInt) rfl (by omega) (by omega) (v := v17) e18 ?_)))))))))))
  refine s_v (pc := 1085) rw_0_1085 (dp0 hd (by decide)) (ls0 := [.ref 77, .int v13, .int v17]) rfl (Nat.le_of_ble_eq_true rfl) (Nat.le_of_ble_eq_true rfl) rfl (to_rc rfl rfl rfl (g_o hG22 rfl)) rfl ?_
  have j_33 := (NJ_f (tg_572 F21) jNJ)
  refine C_235 hX (dp1 hd (by decide)) hG22 j_33 (n := v13) (w := v17) (fun r34 M37 hG36 F35 => ?_)
  have n_38 : M37.1.2.1 = M26.1.2.1 ∧ M37.1.2.2.1 = M26.1.2.2.1 := by rw [F35.1]; exact ⟨rfl, rfl⟩
  refine to_popi (pc := 1088) rw_0_1088 (to_go (pc := 1089) rw_0_1089 ?_)
  have c_40 : M37.2.1 77 7 = (M.2.1 77 7) := (F_n F35 (show ¬ (77 = 77 ∧ 7 = 2 ∨ 94 ≤ 77 ∧ 77 ≤ 98) by decide) (F_n F21 (show ¬ (11 ≤ 77 ∧ 77 ≤ 16 ∨ 18 ≤ 77 ∧ 77 ≤ 27 ∨ 36 ≤ 77 ∧ 77 ≤ 48) by decide) rfl))
  have t_41 : (M37.2.1 77 7).toInt = (M.2.1 77 7).toInt := congrArg Int32.toInt c_40
  have c_42 : M37.2.1 77 6 = (M.2.1 77 6) := (F_n F35 (show ¬ (77 = 77 ∧ 6 = 2 ∨ 94 ≤ 77 ∧ 77 ≤ 98) by decide) (F_n F21 (show ¬ (11 ≤ 77 ∧ 77 ≤ 16 ∨ 18 ≤ 77 ∧ 77 ≤ 27 ∨ 36 ≤ 77 ∧ 77 ≤ 48) by decide) rfl))
  have t_43 : (M37.2.1 77 6).toInt = (M.2.1 77 6).toInt := congrArg Int32.toInt c_42
  have c_44 : M37.2.1 1 1 = (M.2.1 1 1) := (F_n F35 (show ¬ (1 = 77 ∧ 1 = 2 ∨ 94 ≤ 1 ∧ 1 ≤ 98) by decide) (F_n F21 (show ¬ (11 ≤ 1 ∧ 1 ≤ 16 ∨ 18 ≤ 1 ∧ 1 ≤ 27 ∨ 36 ≤ 1 ∧ 1 ≤ 48) by decide) rfl))
  have t_45 : (M37.2.1 1 1).toInt = (M.2.1 1 1).toInt := congrArg Int32.toInt c_44
  have c_46 : M37.2.1 77 1 = (M.2.1 77 1) := (F_n F35 (show ¬ (77 = 77 ∧ 1 = 2 ∨ 94 ≤ 77 ∧ 77 ≤ 98) by decide) (F_n F21 (show ¬ (11 ≤ 77 ∧ 77 ≤ 16 ∨ 18 ≤ 77 ∧ 77 ≤ 27 ∨ 36 ≤ 77 ∧ 77 ≤ 48) by decide) rfl))
  have t_47 : (M37.2.1 77 1).toInt = (M.2.1 77 1).toInt := congrArg Int32.toInt c_46
  have c_48 : M37.2.1 0 12 = (M.2.1 0 12) := (F_n F35 (show ¬ (0 = 77 ∧ 12 = 2 ∨ 94 ≤ 0 ∧ 0 ≤ 98) by decide) (F_n F21 (show ¬ (11 ≤ 0 ∧ 0 ≤ 16 ∨ 18 ≤ 0 ∧ 0 ≤ 27 ∨ 36 ≤ 0 ∧ 0 ≤ 48) by decide) rfl))
  have t_49 : (M37.2.1 0 12).toInt = (M.2.1 0 12).toInt := congrArg Int32.toInt c_48
  have c_50 : M37.2.1 77 28 = (M.2.1 77 28) := (F_n F35 (show ¬ (77 = 77 ∧ 28 = 2 ∨ 94 ≤ 77 ∧ 77 ≤ 98) by decide) (F_n F21 (show ¬ (11 ≤ 77 ∧ 77 ≤ 16 ∨ 18 ≤ 77 ∧ 77 ≤ 27 ∨ 36 ≤ 77 ∧ 77 ≤ 48) by decide) rfl))
  have t_51 : (M37.2.1 77 28).toInt = (M.2.1 77 28).toInt := congrArg Int32.toInt c_50
  have c_52 : M37.2.1 17 4 = (M.2.1 17 4) := (F_n F35 (show ¬ (17 = 77 ∧ 4 = 2 ∨ 94 ≤ 17 ∧ 17 ≤ 98) by decide) (F_n F21 (show ¬ (11 ≤ 17 ∧ 17 ≤ 16 ∨ 18 ≤ 17 ∧ 17 ≤ 27 ∨ 36 ≤ 17 ∧ 17 ≤ 48) by decide) rfl))
  have t_53 : (M37.2.1 17 4).toInt = (M.2.1 17 4).toInt := congrArg Int32.toInt c_52
  have c_54 : M37.2.1 77 41 = (M.2.1 77 41) := (F_n F35 (show ¬ (77 = 77 ∧ 41 = 2 ∨ 94 ≤ 77 ∧ 77 ≤ 98) by decide) (F_n F21 (show ¬ (11 ≤ 77 ∧ 77 ≤ 16 ∨ 18 ≤ 77 ∧ 77 ≤ 27 ∨ 36 ≤ 77 ∧ 77 ≤ 48) by decide) rfl))
  have t_55 : (M37.2.1 77 41).toInt = (M.2.1 77 41).toInt := congrArg Int32.toInt c_54
  have c_56 : M37.2.1 6 0 = (M.2.1 6 0) := (F_n F35 (show ¬ (6 = 77 ∧ 0 = 2 ∨ 94 ≤ 6 ∧ 6 ≤ 98) by decide) (F_n F21 (show ¬ (11 ≤ 6 ∧ 6 ≤ 16 ∨ 18 ≤ 6 ∧ 6 ≤ 27 ∨ 36 ≤ 6 ∧ 6 ≤ 48) by decide) rfl))
  have t_57 : (M37.2.1 6 0).toInt = (M.2.1 6 0).toInt := congrArg Int32.toInt c_56
  have c_58 : M37.2.1 77 29 = (M.2.1 77 29) := (F_n F35 (show ¬ (77 = 77 ∧ 29 = 2 ∨ 94 ≤ 77 ∧ 77 ≤ 98) by decide) (F_n F21 (show ¬ (11 ≤ 77 ∧ 77 ≤ 16 ∨ 18 ≤ 77 ∧ 77 ≤ 27 ∨ 36 ≤ 77 ∧ 77 ≤ 48) by decide) rfl))
  have t_59 : (M37.2.1 77 29).toInt = (M.2.1 77 29).toInt := congrArg Int32.toInt c_58
  have c_60 : M37.2.1 28 8 = (M.2.1 28 8) := (F_n F35 (show ¬ (28 = 77 ∧ 8 = 2 ∨ 94 ≤ 28 ∧ 28 ≤ 98) by decide) (F_n F21 (show ¬ (11 ≤ 28 ∧ 28 ≤ 16 ∨ 18 ≤ 28 ∧ 28 ≤ 27 ∨ 36 ≤ 28 ∧ 28 ≤ 48) by decide) rfl))
  have t_61 : (M37.2.1 28 8).toInt = (M.2.1 28 8).toInt := congrArg Int32.toInt c_60
  have c_62 : M37.2.1 77 43 = (M.2.1 77 43) := (F_n F35 (show ¬ (77 = 77 ∧ 43 = 2 ∨ 94 ≤ 77 ∧ 77 ≤ 98) by decide) (F_n F21 (show ¬ (11 ≤ 77 ∧ 77 ≤ 16 ∨ 18 ≤ 77 ∧ 77 ≤ 27 ∨ 36 ≤ 77 ∧ 77 ≤ 48) by decide) rfl))
  have t_63 : (M37.2.1 77 43).toInt = (M.2.1 77 43).toInt := congrArg Int32.toInt c_62
  have c_64 : M37.2.1 28 9 = (M.2.1 28 9) := (F_n F35 (show ¬ (28 = 77 ∧ 9 = 2 ∨ 94 ≤ 28 ∧ 28 ≤ 98) by decide) (F_n F21 (show ¬ (11 ≤ 28 ∧ 28 ≤ 16 ∨ 18 ≤ 28 ∧ 28 ≤ 27 ∨ 36 ≤ 28 ∧ 28 ≤ 48) by decide) rfl))
  have t_65 : (M37.2.1 28 9).toInt = (M.2.1 28 9).toInt := congrArg Int32.toInt c_64
  have c_66 : M37.2.1 77 42 = (M.2.1 77 42) := (F_n F35 (show ¬ (77 = 77 ∧ 42 = 2 ∨ 94 ≤ 77 ∧ 77 ≤ 98) by decide) (F_n F21 (show ¬ (11 ≤ 77 ∧ 77 ≤ 16 ∨ 18 ≤ 77 ∧ 77 ≤ 27 ∨ 36 ≤ 77 ∧ 77 ≤ 48) by decide) rfl))
  have t_67 : (M37.2.1 77 42).toInt = (M.2.1 77 42).toInt := congrArg Int32.toInt c_66
  have j_68 := (PI_f (tg_573 F35) p_23)
  have j_69 := (NI_f (tg_574 F35) p_24)
  have j_70 := (QI_f (tg_575 F35) p_25)
  have j_71 := (PQE_r F35.2.1 (PQE_r F21.2.1 jPQE))
  have j_72 := (FA_f (tg_576 F35) (FA_f (tg_577 F21) jFA))
  have j_73 := (WC_f (tg_578 F35) (WC_f (tg_579 F21) jWC))
  have j_74 := (NJ_f (tg_580 F35) j_33)
  have j_75 := (PS_f (tg_581 F35) (PS_f (tg_582 F21) jPS))
  have j_76 := (KQ_f (tg_583 F35) (KQ_f (tg_584 F21) jKQ))
  have j_77 := (TP_f (tg_585 F35) (TP_f (tg_586 F21) jTP))
  have j_78 := (W9_f (tg_587 F35) (W9_f (tg_588 F21) jW9))
  have j_79 := (AN_F F35 tg_635 (AN_F F21 tg_636 jAN))
  have j_80 := (KNA_F F35 (fun a i z => show ¬ (a = 77 ∧ i = 2 ∨ 94 ≤ a ∧ a ≤ 98) by omega) (KNA_F F21 (fun a i z => show ¬ (11 ≤ a ∧ a ≤ 16 ∨ 18 ≤ a ∧ a ≤ 27 ∨ 36 ≤ a ∧ a ≤ 48) by omega) jKNA))
  have j_81 := (NE_r F35.2.1 (NE_r F21.2.1 jNE))
  have j_82 := (W8_f (tg_589 F35) (W8_f (tg_590 F21) jW8))
  exact h M37 (u5) (u6) ⟨⟨⟨⟨⟨⟨⟨⟨⟨hG36, ⟨j_68, j_69, j_70, j_71⟩, ⟨j_72, j_73, j_74, j_75, j_76⟩, by omega, by omega⟩, j_77, j_78⟩, j_81, by omega⟩, AN_a j_79⟩, by omega⟩, j_82⟩, by omega⟩, j_79⟩, j_80, by omega, by omega⟩ (by omega) (by omega)
set_option maxRecDepth 4000 in
set_option maxHeartbeats 0 in
theorem LW_25 {X : mm_X} {d L : Nat} {M : mm_M} {Q : Option Value → mm_M → Prop} {i : Int32} {u5 u6 : Value} (hX : g_X X) (hW : g_W X) (hW2 : g_W2 X) (hL : (X 0).1 = L) (h3 : L ≤ 3072) (hd : 40 ≤ d) (hi : 0 ≤ i.toInt) (hi2 : i.toInt + 6 ≤ (L : Int)) (H : LI10 M) (h : ∀ (M1 : mm_M) (v5 v6 : Value), LI10 M1 → M1.1.2.1 ≤ M.1.2.1 + 1 → M1.1.2.2.1 ≤ M.1.2.2.1 + 6 → mm_T X d 0 1313 [.ref mm_ext, .ref 0, .ref 77, .ref 125, .int i, v5, v6] [] M1 Q) : mm_T X d 0 1092 [.ref mm_ext, .ref 0, .ref 77, .ref 125, .int i, u5, u6] [] M Q := by
  obtain ⟨⟨⟨⟨⟨⟨⟨⟨⟨hG, ⟨jPI, jNI, jQI, jPQE⟩, ⟨jFA, jWC, jNJ, jPS, jKQ⟩, jJ, jE⟩, jTP, jW9⟩, jNE, jCC⟩, -⟩, jOV⟩, jW8⟩, jNN⟩, jAN⟩, jKNA, jDN, jPN⟩ := H
  have b_1 := g_b hG (a := 77) (i := 7) (lo := 0) (hi := 500) rfl rfl
  have b_2 := g_b hG (a := 77) (i := 6) (lo := 0) (hi := 500) rfl rfl
  have b_3 := g_b hG (a := 1) (i := 1) (lo := 0) (hi := 500) rfl rfl
  have b_4 := g_b hG (a := 77) (i := 1) (lo := 0) (hi := 500) rfl rfl
  have b_5 := g_b hG (a := 0) (i := 12) (lo := 0) (hi := 30) rfl rfl
  have b_6 := g_b hG (a := 77) (i := 28) (lo := 0) (hi := 30) rfl rfl
  have b_7 := g_b hG (a := 6) (i := 0) (lo := 0) (hi := 150) rfl rfl
  have b_8 := g_b hG (a := 77) (i := 29) (lo := 0) (hi := 150) rfl rfl
  have b_9 := g_b hG (a := 28) (i := 8) (lo := 0) (hi := 3000) rfl rfl
  have b_10 := g_b hG (a := 77) (i := 43) (lo := 0) (hi := 3000) rfl rfl
  refine to_an (pc := 1092) rw_0_1092 rfl (to_an (pc := 1093) rw_0_1093 rfl (to_i (pc := 1094) rw_0_1094 rfl (to_c (pc := 1096) rw_0_1096 (x := (1 : Int32)) rfl rfl (s_add (pc := 1097) rw_0_1097 (A := i.toInt) (B := 1) rfl rfl (by omega) (fun v11 e12 => s_x0 (pc := 1098) rw_0_1098 hL (A := v11.toInt) rfl (by omega) (by omega) (fun v13 e14 => to_an (pc := 1099) rw_0_1099 rfl (to_i (pc := 1100) rw_0_1100 rfl (to_c (pc := 1102) rw_0_1102 (x := (2 : Int32)) rfl rfl (s_add (pc := 1103) rw_0_1103 (A := i.toInt) (B := 2) rfl rfl (by omega) (fun v15 e16 => s_x0 (pc := 1104) rw_0_1104 hL (A := v15.toInt) rfl (by omega) (by omega) (fun v17 e18 => s_v (pc := 1105) rw_0_1105 (dp0 hd (by decide)) (ls0 := [.ref 0, .int v13, .int v17]) rfl (Nat.le_of_ble_eq_true rfl) (Nat.le_of_ble_eq_true rfl) rfl (to_rc rfl rfl rfl (g_o hG rfl)) rfl ?_)))))))))))
  obtain ⟨pz19, pzz19, qz19, qzz19, hpz19, hpzz19, hqz19, hqzz19, hpqz19⟩ := id jPQE
  refine C_134 hX (dp1 hd (by decide)) hG hpz19 hpzz19 hqz19 hqzz19 hpqz19 jNI jPI jQI (n := v13) (w := v17) (p := pz19) (pz := pzz19) (q := qz19) (qz := qzz19) (fun r20 M26 hG22 F21 p_23 p_24 p_25 => ?_)
  have n_27 : M26.1.2.1 = M.1.2.1 ∧ M26.1.2.2.1 = M.1.2.2.1 := by rw [F21.1]; exact ⟨rfl, rfl⟩
  refine to_popi (pc := 1108) rw_0_1108 (to_an (pc := 1109) rw_0_1109 rfl (to_an (pc := 1110) rw_0_1110 rfl (to_i (pc := 1111) rw_0_1111 rfl (to_c (pc := 1113) rw_0_1113 (x := (1 : Int32)) rfl rfl (s_addk (pc := 1114) rw_0_1114 (A := i.toInt) (B := 1) rfl rfl (by omega) (v := v11) e12 (s_x0k (pc := 1115) rw_0_1115 hL (A := v11.toInt) rfl (by omega) (by omega) (v := v13) e14 (to_an (pc := 1116) rw_0_1116 rfl (to_i (pc := 1117) rw_0_1117 rfl (to_c (pc := 1119) rw_0_1119 (x := (2 : Int32)) rfl rfl (s_addk (pc := 1120) rw_0_1120 (A := i.toInt) (B := 2) rfl rfl (by omega) (v := v15) e16 (s_x0k (pc := 1121) rw_0_1121 hL (A := v15.toInt) rfl (by omega) (by omega) (v := v17) e18 ?_)))))))))))
  refine s_v (pc := 1122) rw_0_1122 (dp0 hd (by decide)) (ls0 := [.ref 77, .int v13, .int v17, .null, .null, .null, .null, .null, .null, .null, .null, .null, .null, .null]) rfl (Nat.le_of_ble_eq_true rfl) (Nat.le_of_ble_eq_true rfl) rfl (to_rc rfl rfl rfl (g_o hG22 rfl)) rfl ?_
  have j_33 := (NJ_f (tg_572 F21) jNJ)
  have j_34 := (FA_f (tg_577 F21) jFA)
  have j_35 := (WC_f (tg_579 F21) jWC)
  refine C_237 hX (dp1 hd (by decide)) hG22 j_33 j_34 j_35 (n := v13) (w := v17) (fun r36 M39 hG38 F37 => ?_)
  have n_40 : M39.1.2.1 = M26.1.2.1 ∧ M39.1.2.2.1 = M26.1.2.2.1 := by rw [F37.1]; exact ⟨rfl, rfl⟩
  refine to_popi (pc := 1125) rw_0_1125 (to_go (pc := 1126) rw_0_1126 ?_)
  have c_42 : M39.2.1 77 7 = (M.2.1 77 7) := (F_n F37 (show ¬ (77 = 77 ∧ 7 = 2 ∨ 94 ≤ 77 ∧ 77 ≤ 98 ∨ 77 = 118) by decide) (F_n F21 (show ¬ (11 ≤ 77 ∧ 77 ≤ 16 ∨ 18 ≤ 77 ∧ 77 ≤ 27 ∨ 36 ≤ 77 ∧ 77 ≤ 48) by decide) rfl))
  have t_43 : (M39.2.1 77 7).toInt = (M.2.1 77 7).toInt := congrArg Int32.toInt c_42
  have c_44 : M39.2.1 77 6 = (M.2.1 77 6) := (F_n F37 (show ¬ (77 = 77 ∧ 6 = 2 ∨ 94 ≤ 77 ∧ 77 ≤ 98 ∨ 77 = 118) by decide) (F_n F21 (show ¬ (11 ≤ 77 ∧ 77 ≤ 16 ∨ 18 ≤ 77 ∧ 77 ≤ 27 ∨ 36 ≤ 77 ∧ 77 ≤ 48) by decide) rfl))
  have t_45 : (M39.2.1 77 6).toInt = (M.2.1 77 6).toInt := congrArg Int32.toInt c_44
  have c_46 : M39.2.1 1 1 = (M.2.1 1 1) := (F_n F37 (show ¬ (1 = 77 ∧ 1 = 2 ∨ 94 ≤ 1 ∧ 1 ≤ 98 ∨ 1 = 118) by decide) (F_n F21 (show ¬ (11 ≤ 1 ∧ 1 ≤ 16 ∨ 18 ≤ 1 ∧ 1 ≤ 27 ∨ 36 ≤ 1 ∧ 1 ≤ 48) by decide) rfl))
  have t_47 : (M39.2.1 1 1).toInt = (M.2.1 1 1).toInt := congrArg Int32.toInt c_46
  have c_48 : M39.2.1 77 1 = (M.2.1 77 1) := (F_n F37 (show ¬ (77 = 77 ∧ 1 = 2 ∨ 94 ≤ 77 ∧ 77 ≤ 98 ∨ 77 = 118) by decide) (F_n F21 (show ¬ (11 ≤ 77 ∧ 77 ≤ 16 ∨ 18 ≤ 77 ∧ 77 ≤ 27 ∨ 36 ≤ 77 ∧ 77 ≤ 48) by decide) rfl))
  have t_49 : (M39.2.1 77 1).toInt = (M.2.1 77 1).toInt := congrArg Int32.toInt c_48
  have c_50 : M39.2.1 0 12 = (M.2.1 0 12) := (F_n F37 (show ¬ (0 = 77 ∧ 12 = 2 ∨ 94 ≤ 0 ∧ 0 ≤ 98 ∨ 0 = 118) by decide) (F_n F21 (show ¬ (11 ≤ 0 ∧ 0 ≤ 16 ∨ 18 ≤ 0 ∧ 0 ≤ 27 ∨ 36 ≤ 0 ∧ 0 ≤ 48) by decide) rfl))
  have t_51 : (M39.2.1 0 12).toInt = (M.2.1 0 12).toInt := congrArg Int32.toInt c_50
  have c_52 : M39.2.1 77 28 = (M.2.1 77 28) := (F_n F37 (show ¬ (77 = 77 ∧ 28 = 2 ∨ 94 ≤ 77 ∧ 77 ≤ 98 ∨ 77 = 118) by decide) (F_n F21 (show ¬ (11 ≤ 77 ∧ 77 ≤ 16 ∨ 18 ≤ 77 ∧ 77 ≤ 27 ∨ 36 ≤ 77 ∧ 77 ≤ 48) by decide) rfl))
  have t_53 : (M39.2.1 77 28).toInt = (M.2.1 77 28).toInt := congrArg Int32.toInt c_52
  have c_54 : M39.2.1 17 4 = (M.2.1 17 4) := (F_n F37 (show ¬ (17 = 77 ∧ 4 = 2 ∨ 94 ≤ 17 ∧ 17 ≤ 98 ∨ 17 = 118) by decide) (F_n F21 (show ¬ (11 ≤ 17 ∧ 17 ≤ 16 ∨ 18 ≤ 17 ∧ 17 ≤ 27 ∨ 36 ≤ 17 ∧ 17 ≤ 48) by decide) rfl))
  have t_55 : (M39.2.1 17 4).toInt = (M.2.1 17 4).toInt := congrArg Int32.toInt c_54
  have c_56 : M39.2.1 77 41 = (M.2.1 77 41) := (F_n F37 (show ¬ (77 = 77 ∧ 41 = 2 ∨ 94 ≤ 77 ∧ 77 ≤ 98 ∨ 77 = 118) by decide) (F_n F21 (show ¬ (11 ≤ 77 ∧ 77 ≤ 16 ∨ 18 ≤ 77 ∧ 77 ≤ 27 ∨ 36 ≤ 77 ∧ 77 ≤ 48) by decide) rfl))
  have t_57 : (M39.2.1 77 41).toInt = (M.2.1 77 41).toInt := congrArg Int32.toInt c_56
  have c_58 : M39.2.1 6 0 = (M.2.1 6 0) := (F_n F37 (show ¬ (6 = 77 ∧ 0 = 2 ∨ 94 ≤ 6 ∧ 6 ≤ 98 ∨ 6 = 118) by decide) (F_n F21 (show ¬ (11 ≤ 6 ∧ 6 ≤ 16 ∨ 18 ≤ 6 ∧ 6 ≤ 27 ∨ 36 ≤ 6 ∧ 6 ≤ 48) by decide) rfl))
  have t_59 : (M39.2.1 6 0).toInt = (M.2.1 6 0).toInt := congrArg Int32.toInt c_58
  have c_60 : M39.2.1 77 29 = (M.2.1 77 29) := (F_n F37 (show ¬ (77 = 77 ∧ 29 = 2 ∨ 94 ≤ 77 ∧ 77 ≤ 98 ∨ 77 = 118) by decide) (F_n F21 (show ¬ (11 ≤ 77 ∧ 77 ≤ 16 ∨ 18 ≤ 77 ∧ 77 ≤ 27 ∨ 36 ≤ 77 ∧ 77 ≤ 48) by decide) rfl))
  have t_61 : (M39.2.1 77 29).toInt = (M.2.1 77 29).toInt := congrArg Int32.toInt c_60
  have c_62 : M39.2.1 28 8 = (M.2.1 28 8) := (F_n F37 (show ¬ (28 = 77 ∧ 8 = 2 ∨ 94 ≤ 28 ∧ 28 ≤ 98 ∨ 28 = 118) by decide) (F_n F21 (show ¬ (11 ≤ 28 ∧ 28 ≤ 16 ∨ 18 ≤ 28 ∧ 28 ≤ 27 ∨ 36 ≤ 28 ∧ 28 ≤ 48) by decide) rfl))
  have t_63 : (M39.2.1 28 8).toInt = (M.2.1 28 8).toInt := congrArg Int32.toInt c_62
  have c_64 : M39.2.1 77 43 = (M.2.1 77 43) := (F_n F37 (show ¬ (77 = 77 ∧ 43 = 2 ∨ 94 ≤ 77 ∧ 77 ≤ 98 ∨ 77 = 118) by decide) (F_n F21 (show ¬ (11 ≤ 77 ∧ 77 ≤ 16 ∨ 18 ≤ 77 ∧ 77 ≤ 27 ∨ 36 ≤ 77 ∧ 77 ≤ 48) by decide) rfl))
  have t_65 : (M39.2.1 77 43).toInt = (M.2.1 77 43).toInt := congrArg Int32.toInt c_64
  have c_66 : M39.2.1 28 9 = (M.2.1 28 9) := (F_n F37 (show ¬ (28 = 77 ∧ 9 = 2 ∨ 94 ≤ 28 ∧ 28 ≤ 98 ∨ 28 = 118) by decide) (F_n F21 (show ¬ (11 ≤ 28 ∧ 28 ≤ 16 ∨ 18 ≤ 28 ∧ 28 ≤ 27 ∨ 36 ≤ 28 ∧ 28 ≤ 48) by decide) rfl))
  have t_67 : (M39.2.1 28 9).toInt = (M.2.1 28 9).toInt := congrArg Int32.toInt c_66
  have c_68 : M39.2.1 77 42 = (M.2.1 77 42) := (F_n F37 (show ¬ (77 = 77 ∧ 42 = 2 ∨ 94 ≤ 77 ∧ 77 ≤ 98 ∨ 77 = 118) by decide) (F_n F21 (show ¬ (11 ≤ 77 ∧ 77 ≤ 16 ∨ 18 ≤ 77 ∧ 77 ≤ 27 ∨ 36 ≤ 77 ∧ 77 ≤ 48) by decide) rfl))
  have t_69 : (M39.2.1 77 42).toInt = (M.2.1 77 42).toInt := congrArg Int32.toInt c_68
  have j_70 := (PI_f (tg_696 F37) p_23)
  have j_71 := (NI_f (tg_697 F37) p_24)
  have j_72 := (QI_f (tg_698 F37) p_25)
  have j_73 := (PQE_r F37.2.1 (PQE_r F21.2.1 jPQE))
  have j_74 := (FA_f (tg_699 F37) j_34)
  have j_75 := (WC_f (tg_700 F37) j_35)
  have j_76 := (NJ_f (tg_701 F37) j_33)
  have j_77 := (PS_f (tg_702 F37) (PS_f (tg_582 F21) jPS))
  have j_78 := (KQ_f (tg_703 F37) (KQ_f (tg_584 F21) jKQ))
  have j_79 := (TP_f (tg_704 F37) (TP_f (tg_586 F21) jTP))
  have j_80 := (W9_f (tg_705 F37) (W9_f (tg_588 F21) jW9))
  have j_81 := (AN_F F37 tg_747 (AN_F F21 tg_636 jAN))
  have j_82 := (KNA_F F37 (fun a i z => show ¬ (a = 77 ∧ i = 2 ∨ 94 ≤ a ∧ a ≤ 98 ∨ a = 118) by omega) (KNA_F F21 (fun a i z => show ¬ (11 ≤ a ∧ a ≤ 16 ∨ 18 ≤ a ∧ a ≤ 27 ∨ 36 ≤ a ∧ a ≤ 48) by omega) jKNA))
  have j_83 := (NE_r F37.2.1 (NE_r F21.2.1 jNE))
  have j_84 := (W8_f (tg_706 F37) (W8_f (tg_590 F21) jW8))
  exact h M39 (u5) (u6) ⟨⟨⟨⟨⟨⟨⟨⟨⟨hG38, ⟨j_70, j_71, j_72, j_73⟩, ⟨j_74, j_75, j_76, j_77, j_78⟩, by omega, by omega⟩, j_79, j_80⟩, j_83, by omega⟩, AN_a j_81⟩, by omega⟩, j_84⟩, by omega⟩, j_81⟩, j_82, by omega, by omega⟩ (by omega) (by omega)
set_option maxRecDepth 4000 in
set_option maxHeartbeats 0 in
theorem LW_26 {X : mm_X} {d L : Nat} {M : mm_M} {Q : Option Value → mm_M → Prop} {i : Int32} {u5 u6 : Value} (hX : g_X X) (hW : g_W X) (hW2 : g_W2 X) (hL : (X 0).1 = L) (h3 : L ≤ 3072) (hd : 40 ≤ d) (hi : 0 ≤ i.toInt) (hi2 : i.toInt + 6 ≤ (L : Int)) (H : LI10 M) (h : ∀ (M1 : mm_M) (v5 v6 : Value), LI10 M1 → M1.1.2.1 ≤ M.1.2.1 + 1 → M1.1.2.2.1 ≤ M.1.2.2.1 + 6 → mm_T X d 0 1313 [.ref mm_ext, .ref 0, .ref 77, .ref 125, .int i, v5, v6] [] M1 Q) : mm_T X d 0 1129 [.ref mm_ext, .ref 0, .ref 77, .ref 125, .int i, u5, u6] [] M Q := by
  obtain ⟨⟨⟨⟨⟨⟨⟨⟨⟨hG, ⟨jPI, jNI, jQI, jPQE⟩, ⟨jFA, jWC, jNJ, jPS, jKQ⟩, jJ, jE⟩, jTP, jW9⟩, jNE, jCC⟩, -⟩, jOV⟩, jW8⟩, jNN⟩, jAN⟩, jKNA, jDN, jPN⟩ := H
  have b_1 := g_b hG (a := 77) (i := 7) (lo := 0) (hi := 500) rfl rfl
  have b_2 := g_b hG (a := 77) (i := 6) (lo := 0) (hi := 500) rfl rfl
  have b_3 := g_b hG (a := 1) (i := 1) (lo := 0) (hi := 500) rfl rfl
  have b_4 := g_b hG (a := 77) (i := 1) (lo := 0) (hi := 500) rfl rfl
  have b_5 := g_b hG (a := 0) (i := 12) (lo := 0) (hi := 30) rfl rfl
  have b_6 := g_b hG (a := 77) (i := 28) (lo := 0) (hi := 30) rfl rfl
  have b_7 := g_b hG (a := 6) (i := 0) (lo := 0) (hi := 150) rfl rfl
  have b_8 := g_b hG (a := 77) (i := 29) (lo := 0) (hi := 150) rfl rfl
  have b_9 := g_b hG (a := 28) (i := 8) (lo := 0) (hi := 3000) rfl rfl
  have b_10 := g_b hG (a := 77) (i := 43) (lo := 0) (hi := 3000) rfl rfl
  refine to_an (pc := 1129) rw_0_1129 rfl (to_an (pc := 1130) rw_0_1130 rfl (to_i (pc := 1131) rw_0_1131 rfl (to_c (pc := 1133) rw_0_1133 (x := (1 : Int32)) rfl rfl (s_add (pc := 1134) rw_0_1134 (A := i.toInt) (B := 1) rfl rfl (by omega) (fun v11 e12 => s_x0 (pc := 1135) rw_0_1135 hL (A := v11.toInt) rfl (by omega) (by omega) (fun v13 e14 => to_an (pc := 1136) rw_0_1136 rfl (to_i (pc := 1137) rw_0_1137 rfl (to_c (pc := 1139) rw_0_1139 (x := (2 : Int32)) rfl rfl (s_add (pc := 1140) rw_0_1140 (A := i.toInt) (B := 2) rfl rfl (by omega) (fun v15 e16 => s_x0 (pc := 1141) rw_0_1141 hL (A := v15.toInt) rfl (by omega) (by omega) (fun v17 e18 => to_an (pc := 1142) rw_0_1142 rfl ?_)))))))))))
  refine to_i (pc := 1143) rw_0_1143 rfl (to_c (pc := 1145) rw_0_1145 (x := (3 : Int32)) rfl rfl (s_add (pc := 1146) rw_0_1146 (A := i.toInt) (B := 3) rfl rfl (by omega) (fun v19 e20 => s_x0 (pc := 1147) rw_0_1147 hL (A := v19.toInt) rfl (by omega) (by omega) (fun v21 e22 => to_an (pc := 1148) rw_0_1148 rfl (to_i (pc := 1149) rw_0_1149 rfl (to_c (pc := 1151) rw_0_1151 (x := (4 : Int32)) rfl rfl (s_add (pc := 1152) rw_0_1152 (A := i.toInt) (B := 4) rfl rfl (by omega) (fun v23 e24 => s_x0 (pc := 1153) rw_0_1153 hL (A := v23.toInt) rfl (by omega) (by omega) (fun v25 e26 => to_an (pc := 1154) rw_0_1154 rfl (to_i (pc := 1155) rw_0_1155 rfl (to_c (pc := 1157) rw_0_1157 (x := (5 : Int32)) rfl rfl ?_)))))))))))
  refine s_add (pc := 1158) rw_0_1158 (A := i.toInt) (B := 5) rfl rfl (by omega) (fun v27 e28 => s_x0 (pc := 1159) rw_0_1159 hL (A := v27.toInt) rfl (by omega) (by omega) (fun v29 e30 => s_v (pc := 1160) rw_0_1160 (dp0 hd (by decide)) (ls0 := [.ref 0, .int v13, .int v17, .int v21, .int v25, .int v29]) rfl (Nat.le_of_ble_eq_true rfl) (Nat.le_of_ble_eq_true rfl) rfl (to_rc rfl rfl rfl (g_o hG rfl)) rfl ?_))
  obtain ⟨pz31, pzz31, qz31, qzz31, hpz31, hpzz31, hqz31, hqzz31, hpqz31⟩ := id jPQE
  refine C_135 hX (dp1 hd (by decide)) hG hpz31 hpzz31 hqz31 hqzz31 hpqz31 jNI jPI jQI (n := v13) (c := v17) (f := v21) (t := v25) (w := v29) (p := pz31) (pz := pzz31) (q := qz31) (qz := qzz31) (fun r32 M38 hG34 F33 p_35 p_36 p_37 => ?_)
  have n_39 : M38.1.2.1 = M.1.2.1 ∧ M38.1.2.2.1 = M.1.2.2.1 := by rw [F33.1]; exact ⟨rfl, rfl⟩
  refine to_popi (pc := 1163) rw_0_1163 (to_an (pc := 1164) rw_0_1164 rfl (to_an (pc := 1165) rw_0_1165 rfl (to_i (pc := 1166) rw_0_1166 rfl (to_c (pc := 1168) rw_0_1168 (x := (1 : Int32)) rfl rfl (s_addk (pc := 1169) rw_0_1169 (A := i.toInt) (B := 1) rfl rfl (by omega) (v := v11) e12 (s_x0k (pc := 1170) rw_0_1170 hL (A := v11.toInt) rfl (by omega) (by omega) (v := v13) e14 (to_an (pc := 1171) rw_0_1171 rfl (to_i (pc := 1172) rw_0_1172 rfl (to_c (pc := 1174) rw_0_1174 (x := (2 : Int32)) rfl rfl (s_addk (pc := 1175) rw_0_1175 (A := i.toInt) (B := 2) rfl rfl (by omega) (v := v15) e16 (s_x0k (pc := 1176) rw_0_1176 hL (A := v15.toInt) rfl (by omega) (by omega) (v := v17) e18 ?_)))))))))))
  refine to_an (pc := 1177) rw_0_1177 rfl (to_i (pc := 1178) rw_0_1178 rfl (to_c (pc := 1180) rw_0_1180 (x := (3 : Int32)) rfl rfl (s_addk (pc := 1181) rw_0_1181 (A := i.toInt) (B := 3) rfl rfl (by omega) (v := v19) e20 (s_x0k (pc := 1182) rw_0_1182 hL (A := v19.toInt) rfl (by omega) (by omega) (v := v21) e22 (to_an (pc := 1183) rw_0_1183 rfl (to_i (pc := 1184) rw_0_1184 rfl (to_c (pc := 1186) rw_0_1186 (x := (4 : Int32)) rfl rfl (s_addk (pc := 1187) rw_0_1187 (A := i.toInt) (B := 4) rfl rfl (by omega) (v := v23) e24 (s_x0k (pc := 1188) rw_0_1188 hL (A := v23.toInt) rfl (by omega) (by omega) (v := v25) e26 (to_an (pc := 1189) rw_0_1189 rfl (to_i (pc := 1190) rw_0_1190 rfl ?_)))))))))))
  refine to_c (pc := 1192) rw_0_1192 (x := (5 : Int32)) rfl rfl (s_addk (pc := 1193) rw_0_1193 (A := i.toInt) (B := 5) rfl rfl (by omega) (v := v27) e28 (s_x0k (pc := 1194) rw_0_1194 hL (A := v27.toInt) rfl (by omega) (by omega) (v := v29) e30 (s_v (pc := 1195) rw_0_1195 (dp0 hd (by decide)) (ls0 := [.ref 77, .int v13, .int v17, .int v21, .int v25, .int v29]) rfl (Nat.le_of_ble_eq_true rfl) (Nat.le_of_ble_eq_true rfl) rfl (to_rc rfl rfl rfl (g_o hG34 rfl)) rfl ?_)))
  have j_51 := (NJ_f (tg_572 F33) jNJ)
  have j_52 := (FA_f (tg_577 F33) jFA)
  refine C_238 hX (dp1 hd (by decide)) hG34 j_51 j_52 (n := v13) (c := v17) (f := v21) (t := v25) (w := v29) (fun r53 M56 hG55 F54 => ?_)
  have n_57 : M56.1.2.1 = M38.1.2.1 ∧ M56.1.2.2.1 = M38.1.2.2.1 := by rw [F54.1]; exact ⟨rfl, rfl⟩
  refine to_popi (pc := 1198) rw_0_1198 (to_go (pc := 1199) rw_0_1199 ?_)
  have c_59 : M56.2.1 77 7 = (M.2.1 77 7) := (F_n F54 (show ¬ (77 = 77 ∧ 7 = 2 ∨ 94 ≤ 77 ∧ 77 ≤ 98 ∨ 77 = 119) by decide) (F_n F33 (show ¬ (11 ≤ 77 ∧ 77 ≤ 16 ∨ 18 ≤ 77 ∧ 77 ≤ 27 ∨ 36 ≤ 77 ∧ 77 ≤ 48) by decide) rfl))
  have t_60 : (M56.2.1 77 7).toInt = (M.2.1 77 7).toInt := congrArg Int32.toInt c_59
  have c_61 : M56.2.1 77 6 = (M.2.1 77 6) := (F_n F54 (show ¬ (77 = 77 ∧ 6 = 2 ∨ 94 ≤ 77 ∧ 77 ≤ 98 ∨ 77 = 119) by decide) (F_n F33 (show ¬ (11 ≤ 77 ∧ 77 ≤ 16 ∨ 18 ≤ 77 ∧ 77 ≤ 27 ∨ 36 ≤ 77 ∧ 77 ≤ 48) by decide) rfl))
  have t_62 : (M56.2.1 77 6).toInt = (M.2.1 77 6).toInt := congrArg Int32.toInt c_61
  have c_63 : M56.2.1 1 1 = (M.2.1 1 1) := (F_n F54 (show ¬ (1 = 77 ∧ 1 = 2 ∨ 94 ≤ 1 ∧ 1 ≤ 98 ∨ 1 = 119) by decide) (F_n F33 (show ¬ (11 ≤ 1 ∧ 1 ≤ 16 ∨ 18 ≤ 1 ∧ 1 ≤ 27 ∨ 36 ≤ 1 ∧ 1 ≤ 48) by decide) rfl))
  have t_64 : (M56.2.1 1 1).toInt = (M.2.1 1 1).toInt := congrArg Int32.toInt c_63
  have c_65 : M56.2.1 77 1 = (M.2.1 77 1) := (F_n F54 (show ¬ (77 = 77 ∧ 1 = 2 ∨ 94 ≤ 77 ∧ 77 ≤ 98 ∨ 77 = 119) by decide) (F_n F33 (show ¬ (11 ≤ 77 ∧ 77 ≤ 16 ∨ 18 ≤ 77 ∧ 77 ≤ 27 ∨ 36 ≤ 77 ∧ 77 ≤ 48) by decide) rfl))
  have t_66 : (M56.2.1 77 1).toInt = (M.2.1 77 1).toInt := congrArg Int32.toInt c_65
  have c_67 : M56.2.1 0 12 = (M.2.1 0 12) := (F_n F54 (show ¬ (0 = 77 ∧ 12 = 2 ∨ 94 ≤ 0 ∧ 0 ≤ 98 ∨ 0 = 119) by decide) (F_n F33 (show ¬ (11 ≤ 0 ∧ 0 ≤ 16 ∨ 18 ≤ 0 ∧ 0 ≤ 27 ∨ 36 ≤ 0 ∧ 0 ≤ 48) by decide) rfl))
  have t_68 : (M56.2.1 0 12).toInt = (M.2.1 0 12).toInt := congrArg Int32.toInt c_67
  have c_69 : M56.2.1 77 28 = (M.2.1 77 28) := (F_n F54 (show ¬ (77 = 77 ∧ 28 = 2 ∨ 94 ≤ 77 ∧ 77 ≤ 98 ∨ 77 = 119) by decide) (F_n F33 (show ¬ (11 ≤ 77 ∧ 77 ≤ 16 ∨ 18 ≤ 77 ∧ 77 ≤ 27 ∨ 36 ≤ 77 ∧ 77 ≤ 48) by decide) rfl))
  have t_70 : (M56.2.1 77 28).toInt = (M.2.1 77 28).toInt := congrArg Int32.toInt c_69
  have c_71 : M56.2.1 17 4 = (M.2.1 17 4) := (F_n F54 (show ¬ (17 = 77 ∧ 4 = 2 ∨ 94 ≤ 17 ∧ 17 ≤ 98 ∨ 17 = 119) by decide) (F_n F33 (show ¬ (11 ≤ 17 ∧ 17 ≤ 16 ∨ 18 ≤ 17 ∧ 17 ≤ 27 ∨ 36 ≤ 17 ∧ 17 ≤ 48) by decide) rfl))
  have t_72 : (M56.2.1 17 4).toInt = (M.2.1 17 4).toInt := congrArg Int32.toInt c_71
  have c_73 : M56.2.1 77 41 = (M.2.1 77 41) := (F_n F54 (show ¬ (77 = 77 ∧ 41 = 2 ∨ 94 ≤ 77 ∧ 77 ≤ 98 ∨ 77 = 119) by decide) (F_n F33 (show ¬ (11 ≤ 77 ∧ 77 ≤ 16 ∨ 18 ≤ 77 ∧ 77 ≤ 27 ∨ 36 ≤ 77 ∧ 77 ≤ 48) by decide) rfl))
  have t_74 : (M56.2.1 77 41).toInt = (M.2.1 77 41).toInt := congrArg Int32.toInt c_73
  have c_75 : M56.2.1 6 0 = (M.2.1 6 0) := (F_n F54 (show ¬ (6 = 77 ∧ 0 = 2 ∨ 94 ≤ 6 ∧ 6 ≤ 98 ∨ 6 = 119) by decide) (F_n F33 (show ¬ (11 ≤ 6 ∧ 6 ≤ 16 ∨ 18 ≤ 6 ∧ 6 ≤ 27 ∨ 36 ≤ 6 ∧ 6 ≤ 48) by decide) rfl))
  have t_76 : (M56.2.1 6 0).toInt = (M.2.1 6 0).toInt := congrArg Int32.toInt c_75
  have c_77 : M56.2.1 77 29 = (M.2.1 77 29) := (F_n F54 (show ¬ (77 = 77 ∧ 29 = 2 ∨ 94 ≤ 77 ∧ 77 ≤ 98 ∨ 77 = 119) by decide) (F_n F33 (show ¬ (11 ≤ 77 ∧ 77 ≤ 16 ∨ 18 ≤ 77 ∧ 77 ≤ 27 ∨ 36 ≤ 77 ∧ 77 ≤ 48) by decide) rfl))
  have t_78 : (M56.2.1 77 29).toInt = (M.2.1 77 29).toInt := congrArg Int32.toInt c_77
  have c_79 : M56.2.1 28 8 = (M.2.1 28 8) := (F_n F54 (show ¬ (28 = 77 ∧ 8 = 2 ∨ 94 ≤ 28 ∧ 28 ≤ 98 ∨ 28 = 119) by decide) (F_n F33 (show ¬ (11 ≤ 28 ∧ 28 ≤ 16 ∨ 18 ≤ 28 ∧ 28 ≤ 27 ∨ 36 ≤ 28 ∧ 28 ≤ 48) by decide) rfl))
  have t_80 : (M56.2.1 28 8).toInt = (M.2.1 28 8).toInt := congrArg Int32.toInt c_79
  have c_81 : M56.2.1 77 43 = (M.2.1 77 43) := (F_n F54 (show ¬ (77 = 77 ∧ 43 = 2 ∨ 94 ≤ 77 ∧ 77 ≤ 98 ∨ 77 = 119) by decide) (F_n F33 (show ¬ (11 ≤ 77 ∧ 77 ≤ 16 ∨ 18 ≤ 77 ∧ 77 ≤ 27 ∨ 36 ≤ 77 ∧ 77 ≤ 48) by decide) rfl))
  have t_82 : (M56.2.1 77 43).toInt = (M.2.1 77 43).toInt := congrArg Int32.toInt c_81
  have c_83 : M56.2.1 28 9 = (M.2.1 28 9) := (F_n F54 (show ¬ (28 = 77 ∧ 9 = 2 ∨ 94 ≤ 28 ∧ 28 ≤ 98 ∨ 28 = 119) by decide) (F_n F33 (show ¬ (11 ≤ 28 ∧ 28 ≤ 16 ∨ 18 ≤ 28 ∧ 28 ≤ 27 ∨ 36 ≤ 28 ∧ 28 ≤ 48) by decide) rfl))
  have t_84 : (M56.2.1 28 9).toInt = (M.2.1 28 9).toInt := congrArg Int32.toInt c_83
  have c_85 : M56.2.1 77 42 = (M.2.1 77 42) := (F_n F54 (show ¬ (77 = 77 ∧ 42 = 2 ∨ 94 ≤ 77 ∧ 77 ≤ 98 ∨ 77 = 119) by decide) (F_n F33 (show ¬ (11 ≤ 77 ∧ 77 ≤ 16 ∨ 18 ≤ 77 ∧ 77 ≤ 27 ∨ 36 ≤ 77 ∧ 77 ≤ 48) by decide) rfl))
  have t_86 : (M56.2.1 77 42).toInt = (M.2.1 77 42).toInt := congrArg Int32.toInt c_85
  have j_87 := (PI_f (tg_707 F54) p_35)
  have j_88 := (NI_f (tg_708 F54) p_36)
  have j_89 := (QI_f (tg_709 F54) p_37)
  have j_90 := (PQE_r F54.2.1 (PQE_r F33.2.1 jPQE))
  have j_91 := (FA_f (tg_710 F54) j_52)
  have j_92 := (WC_f (tg_711 F54) (WC_f (tg_579 F33) jWC))
  have j_93 := (NJ_f (tg_712 F54) j_51)
  have j_94 := (PS_f (tg_713 F54) (PS_f (tg_582 F33) jPS))
  have j_95 := (KQ_f (tg_714 F54) (KQ_f (tg_584 F33) jKQ))
  have j_96 := (TP_f (tg_715 F54) (TP_f (tg_586 F33) jTP))
  have j_97 := (W9_f (tg_716 F54) (W9_f (tg_588 F33) jW9))
  have j_98 := (AN_F F54 tg_748 (AN_F F33 tg_636 jAN))
  have j_99 := (KNA_F F54 (fun a i z => show ¬ (a = 77 ∧ i = 2 ∨ 94 ≤ a ∧ a ≤ 98 ∨ a = 119) by omega) (KNA_F F33 (fun a i z => show ¬ (11 ≤ a ∧ a ≤ 16 ∨ 18 ≤ a ∧ a ≤ 27 ∨ 36 ≤ a ∧ a ≤ 48) by omega) jKNA))
  have j_100 := (NE_r F54.2.1 (NE_r F33.2.1 jNE))
  have j_101 := (W8_f (tg_717 F54) (W8_f (tg_590 F33) jW8))
  exact h M56 (u5) (u6) ⟨⟨⟨⟨⟨⟨⟨⟨⟨hG55, ⟨j_87, j_88, j_89, j_90⟩, ⟨j_91, j_92, j_93, j_94, j_95⟩, by omega, by omega⟩, j_96, j_97⟩, j_100, by omega⟩, AN_a j_98⟩, by omega⟩, j_101⟩, by omega⟩, j_98⟩, j_99, by omega, by omega⟩ (by omega) (by omega)
set_option maxRecDepth 4000 in
set_option maxHeartbeats 0 in
theorem LW_27 {X : mm_X} {d L : Nat} {M : mm_M} {Q : Option Value → mm_M → Prop} {i : Int32} {u5 u6 : Value} (hX : g_X X) (hW : g_W X) (hW2 : g_W2 X) (hL : (X 0).1 = L) (h3 : L ≤ 3072) (hd : 40 ≤ d) (hi : 0 ≤ i.toInt) (hi2 : i.toInt + 6 ≤ (L : Int)) (H : LI10 M) (h : ∀ (M1 : mm_M) (v5 v6 : Value), LI10 M1 → M1.1.2.1 ≤ M.1.2.1 + 1 → M1.1.2.2.1 ≤ M.1.2.2.1 + 6 → mm_T X d 0 1313 [.ref mm_ext, .ref 0, .ref 77, .ref 125, .int i, v5, v6] [] M1 Q) : mm_T X d 0 1202 [.ref mm_ext, .ref 0, .ref 77, .ref 125, .int i, u5, u6] [] M Q := by
  obtain ⟨⟨⟨⟨⟨⟨⟨⟨⟨hG, ⟨jPI, jNI, jQI, jPQE⟩, ⟨jFA, jWC, jNJ, jPS, jKQ⟩, jJ, jE⟩, jTP, jW9⟩, jNE, jCC⟩, -⟩, jOV⟩, jW8⟩, jNN⟩, jAN⟩, jKNA, jDN, jPN⟩ := H
  have b_1 := g_b hG (a := 77) (i := 7) (lo := 0) (hi := 500) rfl rfl
  have b_2 := g_b hG (a := 77) (i := 6) (lo := 0) (hi := 500) rfl rfl
  have b_3 := g_b hG (a := 1) (i := 1) (lo := 0) (hi := 500) rfl rfl
  have b_4 := g_b hG (a := 77) (i := 1) (lo := 0) (hi := 500) rfl rfl
  have b_5 := g_b hG (a := 0) (i := 12) (lo := 0) (hi := 30) rfl rfl
  have b_6 := g_b hG (a := 77) (i := 28) (lo := 0) (hi := 30) rfl rfl
  have b_7 := g_b hG (a := 6) (i := 0) (lo := 0) (hi := 150) rfl rfl
  have b_8 := g_b hG (a := 77) (i := 29) (lo := 0) (hi := 150) rfl rfl
  have b_9 := g_b hG (a := 28) (i := 8) (lo := 0) (hi := 3000) rfl rfl
  have b_10 := g_b hG (a := 77) (i := 43) (lo := 0) (hi := 3000) rfl rfl
  refine to_an (pc := 1202) rw_0_1202 rfl (to_an (pc := 1203) rw_0_1203 rfl (to_i (pc := 1204) rw_0_1204 rfl (to_c (pc := 1206) rw_0_1206 (x := (1 : Int32)) rfl rfl (s_add (pc := 1207) rw_0_1207 (A := i.toInt) (B := 1) rfl rfl (by omega) (fun v11 e12 => s_x0 (pc := 1208) rw_0_1208 hL (A := v11.toInt) rfl (by omega) (by omega) (fun v13 e14 => to_an (pc := 1209) rw_0_1209 rfl (to_i (pc := 1210) rw_0_1210 rfl (to_c (pc := 1212) rw_0_1212 (x := (2 : Int32)) rfl rfl (s_add (pc := 1213) rw_0_1213 (A := i.toInt) (B := 2) rfl rfl (by omega) (fun v15 e16 => s_x0 (pc := 1214) rw_0_1214 hL (A := v15.toInt) rfl (by omega) (by omega) (fun v17 e18 => s_v (pc := 1215) rw_0_1215 (dp0 hd (by decide)) (ls0 := [.ref 0, .int v13, .int v17]) rfl (Nat.le_of_ble_eq_true rfl) (Nat.le_of_ble_eq_true rfl) rfl (to_rc rfl rfl rfl (g_o hG rfl)) rfl ?_)))))))))))
  obtain ⟨pz19, pzz19, qz19, qzz19, hpz19, hpzz19, hqz19, hqzz19, hpqz19⟩ := id jPQE
  refine C_136 hX (dp1 hd (by decide)) hG hpz19 hpzz19 hqz19 hqzz19 hpqz19 jNI jPI jQI (k := v13) (f := v17) (p := pz19) (pz := pzz19) (q := qz19) (qz := qzz19) (fun r20 M26 hG22 F21 p_23 p_24 p_25 => ?_)
  have n_27 : M26.1.2.1 = M.1.2.1 ∧ M26.1.2.2.1 = M.1.2.2.1 := by rw [F21.1]; exact ⟨rfl, rfl⟩
  refine to_popi (pc := 1218) rw_0_1218 (to_an (pc := 1219) rw_0_1219 rfl (to_an (pc := 1220) rw_0_1220 rfl (to_i (pc := 1221) rw_0_1221 rfl (to_c (pc := 1223) rw_0_1223 (x := (1 : Int32)) rfl rfl (s_addk (pc := 1224) rw_0_1224 (A := i.toInt) (B := 1) rfl rfl (by omega) (v := v11) e12 (s_x0k (pc := 1225) rw_0_1225 hL (A := v11.toInt) rfl (by omega) (by omega) (v := v13) e14 (to_an (pc := 1226) rw_0_1226 rfl (to_i (pc := 1227) rw_0_1227 rfl (to_c (pc := 1229) rw_0_1229 (x := (2 : Int32)) rfl rfl (s_addk (pc := 1230) rw_0_1230 (A := i.toInt) (B := 2) rfl rfl (by omega) (v := v15) e16 (s_x0k (pc := 1231) rw_0_1231 hL (A := v15.toInt) rfl (by omega) (by omega) (v := v17) e18 ?_)))))))))))
  refine s_v (pc := 1232) rw_0_1232 (dp0 hd (by decide)) (ls0 := [.ref 77, .int v13, .int v17, .null, .null, .null]) rfl (Nat.le_of_ble_eq_true rfl) (Nat.le_of_ble_eq_true rfl) rfl (to_rc rfl rfl rfl (g_o hG22 rfl)) rfl ?_
  have j_33 := (NJ_f (tg_572 F21) jNJ)
  refine C_242 hX (dp1 hd (by decide)) hG22 j_33 (p := v13) (f := v17) (fun r34 M37 hG36 F35 => ?_)
  have n_38 : M37.1.2.1 = M26.1.2.1 ∧ M37.1.2.2.1 = M26.1.2.2.1 := by rw [F35.1]; exact ⟨rfl, rfl⟩
  refine to_popi (pc := 1235) rw_0_1235 (to_go (pc := 1236) rw_0_1236 ?_)
  have c_40 : M37.2.1 77 7 = (M.2.1 77 7) := (F_n F35 (show ¬ (77 = 77 ∧ 7 = 2 ∨ 94 ≤ 77 ∧ 77 ≤ 98 ∨ 77 = 120) by decide) (F_n F21 (show ¬ (11 ≤ 77 ∧ 77 ≤ 16 ∨ 18 ≤ 77 ∧ 77 ≤ 27 ∨ 36 ≤ 77 ∧ 77 ≤ 48) by decide) rfl))
  have t_41 : (M37.2.1 77 7).toInt = (M.2.1 77 7).toInt := congrArg Int32.toInt c_40
  have c_42 : M37.2.1 77 6 = (M.2.1 77 6) := (F_n F35 (show ¬ (77 = 77 ∧ 6 = 2 ∨ 94 ≤ 77 ∧ 77 ≤ 98 ∨ 77 = 120) by decide) (F_n F21 (show ¬ (11 ≤ 77 ∧ 77 ≤ 16 ∨ 18 ≤ 77 ∧ 77 ≤ 27 ∨ 36 ≤ 77 ∧ 77 ≤ 48) by decide) rfl))
  have t_43 : (M37.2.1 77 6).toInt = (M.2.1 77 6).toInt := congrArg Int32.toInt c_42
  have c_44 : M37.2.1 1 1 = (M.2.1 1 1) := (F_n F35 (show ¬ (1 = 77 ∧ 1 = 2 ∨ 94 ≤ 1 ∧ 1 ≤ 98 ∨ 1 = 120) by decide) (F_n F21 (show ¬ (11 ≤ 1 ∧ 1 ≤ 16 ∨ 18 ≤ 1 ∧ 1 ≤ 27 ∨ 36 ≤ 1 ∧ 1 ≤ 48) by decide) rfl))
  have t_45 : (M37.2.1 1 1).toInt = (M.2.1 1 1).toInt := congrArg Int32.toInt c_44
  have c_46 : M37.2.1 77 1 = (M.2.1 77 1) := (F_n F35 (show ¬ (77 = 77 ∧ 1 = 2 ∨ 94 ≤ 77 ∧ 77 ≤ 98 ∨ 77 = 120) by decide) (F_n F21 (show ¬ (11 ≤ 77 ∧ 77 ≤ 16 ∨ 18 ≤ 77 ∧ 77 ≤ 27 ∨ 36 ≤ 77 ∧ 77 ≤ 48) by decide) rfl))
  have t_47 : (M37.2.1 77 1).toInt = (M.2.1 77 1).toInt := congrArg Int32.toInt c_46
  have c_48 : M37.2.1 0 12 = (M.2.1 0 12) := (F_n F35 (show ¬ (0 = 77 ∧ 12 = 2 ∨ 94 ≤ 0 ∧ 0 ≤ 98 ∨ 0 = 120) by decide) (F_n F21 (show ¬ (11 ≤ 0 ∧ 0 ≤ 16 ∨ 18 ≤ 0 ∧ 0 ≤ 27 ∨ 36 ≤ 0 ∧ 0 ≤ 48) by decide) rfl))
  have t_49 : (M37.2.1 0 12).toInt = (M.2.1 0 12).toInt := congrArg Int32.toInt c_48
  have c_50 : M37.2.1 77 28 = (M.2.1 77 28) := (F_n F35 (show ¬ (77 = 77 ∧ 28 = 2 ∨ 94 ≤ 77 ∧ 77 ≤ 98 ∨ 77 = 120) by decide) (F_n F21 (show ¬ (11 ≤ 77 ∧ 77 ≤ 16 ∨ 18 ≤ 77 ∧ 77 ≤ 27 ∨ 36 ≤ 77 ∧ 77 ≤ 48) by decide) rfl))
  have t_51 : (M37.2.1 77 28).toInt = (M.2.1 77 28).toInt := congrArg Int32.toInt c_50
  have c_52 : M37.2.1 17 4 = (M.2.1 17 4) := (F_n F35 (show ¬ (17 = 77 ∧ 4 = 2 ∨ 94 ≤ 17 ∧ 17 ≤ 98 ∨ 17 = 120) by decide) (F_n F21 (show ¬ (11 ≤ 17 ∧ 17 ≤ 16 ∨ 18 ≤ 17 ∧ 17 ≤ 27 ∨ 36 ≤ 17 ∧ 17 ≤ 48) by decide) rfl))
  have t_53 : (M37.2.1 17 4).toInt = (M.2.1 17 4).toInt := congrArg Int32.toInt c_52
  have c_54 : M37.2.1 77 41 = (M.2.1 77 41) := (F_n F35 (show ¬ (77 = 77 ∧ 41 = 2 ∨ 94 ≤ 77 ∧ 77 ≤ 98 ∨ 77 = 120) by decide) (F_n F21 (show ¬ (11 ≤ 77 ∧ 77 ≤ 16 ∨ 18 ≤ 77 ∧ 77 ≤ 27 ∨ 36 ≤ 77 ∧ 77 ≤ 48) by decide) rfl))
  have t_55 : (M37.2.1 77 41).toInt = (M.2.1 77 41).toInt := congrArg Int32.toInt c_54
  have c_56 : M37.2.1 6 0 = (M.2.1 6 0) := (F_n F35 (show ¬ (6 = 77 ∧ 0 = 2 ∨ 94 ≤ 6 ∧ 6 ≤ 98 ∨ 6 = 120) by decide) (F_n F21 (show ¬ (11 ≤ 6 ∧ 6 ≤ 16 ∨ 18 ≤ 6 ∧ 6 ≤ 27 ∨ 36 ≤ 6 ∧ 6 ≤ 48) by decide) rfl))
  have t_57 : (M37.2.1 6 0).toInt = (M.2.1 6 0).toInt := congrArg Int32.toInt c_56
  have c_58 : M37.2.1 77 29 = (M.2.1 77 29) := (F_n F35 (show ¬ (77 = 77 ∧ 29 = 2 ∨ 94 ≤ 77 ∧ 77 ≤ 98 ∨ 77 = 120) by decide) (F_n F21 (show ¬ (11 ≤ 77 ∧ 77 ≤ 16 ∨ 18 ≤ 77 ∧ 77 ≤ 27 ∨ 36 ≤ 77 ∧ 77 ≤ 48) by decide) rfl))
  have t_59 : (M37.2.1 77 29).toInt = (M.2.1 77 29).toInt := congrArg Int32.toInt c_58
  have c_60 : M37.2.1 28 8 = (M.2.1 28 8) := (F_n F35 (show ¬ (28 = 77 ∧ 8 = 2 ∨ 94 ≤ 28 ∧ 28 ≤ 98 ∨ 28 = 120) by decide) (F_n F21 (show ¬ (11 ≤ 28 ∧ 28 ≤ 16 ∨ 18 ≤ 28 ∧ 28 ≤ 27 ∨ 36 ≤ 28 ∧ 28 ≤ 48) by decide) rfl))
  have t_61 : (M37.2.1 28 8).toInt = (M.2.1 28 8).toInt := congrArg Int32.toInt c_60
  have c_62 : M37.2.1 77 43 = (M.2.1 77 43) := (F_n F35 (show ¬ (77 = 77 ∧ 43 = 2 ∨ 94 ≤ 77 ∧ 77 ≤ 98 ∨ 77 = 120) by decide) (F_n F21 (show ¬ (11 ≤ 77 ∧ 77 ≤ 16 ∨ 18 ≤ 77 ∧ 77 ≤ 27 ∨ 36 ≤ 77 ∧ 77 ≤ 48) by decide) rfl))
  have t_63 : (M37.2.1 77 43).toInt = (M.2.1 77 43).toInt := congrArg Int32.toInt c_62
  have c_64 : M37.2.1 28 9 = (M.2.1 28 9) := (F_n F35 (show ¬ (28 = 77 ∧ 9 = 2 ∨ 94 ≤ 28 ∧ 28 ≤ 98 ∨ 28 = 120) by decide) (F_n F21 (show ¬ (11 ≤ 28 ∧ 28 ≤ 16 ∨ 18 ≤ 28 ∧ 28 ≤ 27 ∨ 36 ≤ 28 ∧ 28 ≤ 48) by decide) rfl))
  have t_65 : (M37.2.1 28 9).toInt = (M.2.1 28 9).toInt := congrArg Int32.toInt c_64
  have c_66 : M37.2.1 77 42 = (M.2.1 77 42) := (F_n F35 (show ¬ (77 = 77 ∧ 42 = 2 ∨ 94 ≤ 77 ∧ 77 ≤ 98 ∨ 77 = 120) by decide) (F_n F21 (show ¬ (11 ≤ 77 ∧ 77 ≤ 16 ∨ 18 ≤ 77 ∧ 77 ≤ 27 ∨ 36 ≤ 77 ∧ 77 ≤ 48) by decide) rfl))
  have t_67 : (M37.2.1 77 42).toInt = (M.2.1 77 42).toInt := congrArg Int32.toInt c_66
  have j_68 := (PI_f (tg_718 F35) p_23)
  have j_69 := (NI_f (tg_719 F35) p_24)
  have j_70 := (QI_f (tg_720 F35) p_25)
  have j_71 := (PQE_r F35.2.1 (PQE_r F21.2.1 jPQE))
  have j_72 := (FA_f (tg_721 F35) (FA_f (tg_577 F21) jFA))
  have j_73 := (WC_f (tg_722 F35) (WC_f (tg_579 F21) jWC))
  have j_74 := (NJ_f (tg_723 F35) j_33)
  have j_75 := (PS_f (tg_724 F35) (PS_f (tg_582 F21) jPS))
  have j_76 := (KQ_f (tg_725 F35) (KQ_f (tg_584 F21) jKQ))
  have j_77 := (TP_f (tg_726 F35) (TP_f (tg_586 F21) jTP))
  have j_78 := (W9_f (tg_727 F35) (W9_f (tg_588 F21) jW9))
  have j_79 := (AN_F F35 tg_749 (AN_F F21 tg_636 jAN))
  have j_80 := (KNA_F F35 (fun a i z => show ¬ (a = 77 ∧ i = 2 ∨ 94 ≤ a ∧ a ≤ 98 ∨ a = 120) by omega) (KNA_F F21 (fun a i z => show ¬ (11 ≤ a ∧ a ≤ 16 ∨ 18 ≤ a ∧ a ≤ 27 ∨ 36 ≤ a ∧ a ≤ 48) by omega) jKNA))
  have j_81 := (NE_r F35.2.1 (NE_r F21.2.1 jNE))
  have j_82 := (W8_f (tg_728 F35) (W8_f (tg_590 F21) jW8))
  exact h M37 (u5) (u6) ⟨⟨⟨⟨⟨⟨⟨⟨⟨hG36, ⟨j_68, j_69, j_70, j_71⟩, ⟨j_72, j_73, j_74, j_75, j_76⟩, by omega, by omega⟩, j_77, j_78⟩, j_81, by omega⟩, AN_a j_79⟩, by omega⟩, j_82⟩, by omega⟩, j_79⟩, j_80, by omega, by omega⟩ (by omega) (by omega)
set_option maxRecDepth 4000 in
set_option maxHeartbeats 0 in
theorem LW_28 {X : mm_X} {d L : Nat} {M : mm_M} {Q : Option Value → mm_M → Prop} {i : Int32} {u5 u6 : Value} (hX : g_X X) (hW : g_W X) (hW2 : g_W2 X) (hL : (X 0).1 = L) (h3 : L ≤ 3072) (hd : 40 ≤ d) (hi : 0 ≤ i.toInt) (hi2 : i.toInt + 6 ≤ (L : Int)) (H : LI10 M) (h : ∀ (M1 : mm_M) (v5 v6 : Value), LI10 M1 → M1.1.2.1 ≤ M.1.2.1 + 1 → M1.1.2.2.1 ≤ M.1.2.2.1 + 6 → mm_T X d 0 1313 [.ref mm_ext, .ref 0, .ref 77, .ref 125, .int i, v5, v6] [] M1 Q) : mm_T X d 0 1239 [.ref mm_ext, .ref 0, .ref 77, .ref 125, .int i, u5, u6] [] M Q := by
  obtain ⟨⟨⟨⟨⟨⟨⟨⟨⟨hG, ⟨jPI, jNI, jQI, jPQE⟩, ⟨jFA, jWC, jNJ, jPS, jKQ⟩, jJ, jE⟩, jTP, jW9⟩, jNE, jCC⟩, -⟩, jOV⟩, jW8⟩, jNN⟩, jAN⟩, jKNA, jDN, jPN⟩ := H
  have b_1 := g_b hG (a := 77) (i := 7) (lo := 0) (hi := 500) rfl rfl
  have b_2 := g_b hG (a := 77) (i := 6) (lo := 0) (hi := 500) rfl rfl
  have b_3 := g_b hG (a := 1) (i := 1) (lo := 0) (hi := 500) rfl rfl
  have b_4 := g_b hG (a := 77) (i := 1) (lo := 0) (hi := 500) rfl rfl
  have b_5 := g_b hG (a := 0) (i := 12) (lo := 0) (hi := 30) rfl rfl
  have b_6 := g_b hG (a := 77) (i := 28) (lo := 0) (hi := 30) rfl rfl
  have b_7 := g_b hG (a := 6) (i := 0) (lo := 0) (hi := 150) rfl rfl
  have b_8 := g_b hG (a := 77) (i := 29) (lo := 0) (hi := 150) rfl rfl
  have b_9 := g_b hG (a := 28) (i := 8) (lo := 0) (hi := 3000) rfl rfl
  have b_10 := g_b hG (a := 77) (i := 43) (lo := 0) (hi := 3000) rfl rfl
  refine to_an (pc := 1239) rw_0_1239 rfl (to_an (pc := 1240) rw_0_1240 rfl (to_i (pc := 1241) rw_0_1241 rfl (to_c (pc := 1243) rw_0_1243 (x := (1 : Int32)) rfl rfl (s_add (pc := 1244) rw_0_1244 (A := i.toInt) (B := 1) rfl rfl (by omega) (fun v11 e12 => s_x0 (pc := 1245) rw_0_1245 hL (A := v11.toInt) rfl (by omega) (by omega) (fun v13 e14 => to_an (pc := 1246) rw_0_1246 rfl (to_i (pc := 1247) rw_0_1247 rfl (to_c (pc := 1249) rw_0_1249 (x := (2 : Int32)) rfl rfl (s_add (pc := 1250) rw_0_1250 (A := i.toInt) (B := 2) rfl rfl (by omega) (fun v15 e16 => s_x0 (pc := 1251) rw_0_1251 hL (A := v15.toInt) rfl (by omega) (by omega) (fun v17 e18 => to_an (pc := 1252) rw_0_1252 rfl ?_)))))))))))
  refine to_i (pc := 1253) rw_0_1253 rfl (to_c (pc := 1255) rw_0_1255 (x := (3 : Int32)) rfl rfl (s_add (pc := 1256) rw_0_1256 (A := i.toInt) (B := 3) rfl rfl (by omega) (fun v19 e20 => s_x0 (pc := 1257) rw_0_1257 hL (A := v19.toInt) rfl (by omega) (by omega) (fun v21 e22 => s_v (pc := 1258) rw_0_1258 (dp0 hd (by decide)) (ls0 := [.ref 0, .int v13, .int v17, .int v21]) rfl (Nat.le_of_ble_eq_true rfl) (Nat.le_of_ble_eq_true rfl) rfl (to_rc rfl rfl rfl (g_o hG rfl)) rfl ?_))))
  obtain ⟨pz23, pzz23, qz23, qzz23, hpz23, hpzz23, hqz23, hqzz23, hpqz23⟩ := id jPQE
  refine C_137 hX (dp1 hd (by decide)) hG hpz23 hpzz23 hqz23 hqzz23 hpqz23 jNI jPI jQI (k := v13) (f := v17) (w := v21) (p := pz23) (pz := pzz23) (q := qz23) (qz := qzz23) (fun r24 M30 hG26 F25 p_27 p_28 p_29 => ?_)
  have n_31 : M30.1.2.1 = M.1.2.1 ∧ M30.1.2.2.1 = M.1.2.2.1 := by rw [F25.1]; exact ⟨rfl, rfl⟩
  refine to_popi (pc := 1261) rw_0_1261 (to_an (pc := 1262) rw_0_1262 rfl (to_an (pc := 1263) rw_0_1263 rfl (to_i (pc := 1264) rw_0_1264 rfl (to_c (pc := 1266) rw_0_1266 (x := (1 : Int32)) rfl rfl (s_addk (pc := 1267) rw_0_1267 (A := i.toInt) (B := 1) rfl rfl (by omega) (v := v11) e12 (s_x0k (pc := 1268) rw_0_1268 hL (A := v11.toInt) rfl (by omega) (by omega) (v := v13) e14 (to_an (pc := 1269) rw_0_1269 rfl (to_i (pc := 1270) rw_0_1270 rfl (to_c (pc := 1272) rw_0_1272 (x := (2 : Int32)) rfl rfl (s_addk (pc := 1273) rw_0_1273 (A := i.toInt) (B := 2) rfl rfl (by omega) (v := v15) e16 (s_x0k (pc := 1274) rw_0_1274 hL (A := v15.toInt) rfl (by omega) (by omega) (v := v17) e18 ?_)))))))))))
  refine to_an (pc := 1275) rw_0_1275 rfl (to_i (pc := 1276) rw_0_1276 rfl (to_c (pc := 1278) rw_0_1278 (x := (3 : Int32)) rfl rfl (s_addk (pc := 1279) rw_0_1279 (A := i.toInt) (B := 3) rfl rfl (by omega) (v := v19) e20 (s_x0k (pc := 1280) rw_0_1280 hL (A := v19.toInt) rfl (by omega) (by omega) (v := v21) e22 (s_v (pc := 1281) rw_0_1281 (dp0 hd (by decide)) (ls0 := [.ref 77, .int v13, .int v17, .int v21, .null, .null, .null]) rfl (Nat.le_of_ble_eq_true rfl) (Nat.le_of_ble_eq_true rfl) rfl (to_rc rfl rfl rfl (g_o hG26 rfl)) rfl ?_)))))
  have j_39 := (NJ_f (tg_572 F25) jNJ)
  have j_40 := (FA_f (tg_577 F25) jFA)
  refine C_245 hX (dp1 hd (by decide)) hG26 j_39 j_40 (p := v13) (f := v17) (w := v21) (fun r41 M44 hG43 F42 => ?_)
  have n_45 : M44.1.2.1 = M30.1.2.1 ∧ M44.1.2.2.1 = M30.1.2.2.1 := by rw [F42.1]; exact ⟨rfl, rfl⟩
  refine to_popi (pc := 1284) rw_0_1284 (to_go (pc := 1285) rw_0_1285 ?_)
  have c_47 : M44.2.1 77 7 = (M.2.1 77 7) := (F_n F42 (show ¬ (77 = 77 ∧ 7 = 2 ∨ 94 ≤ 77 ∧ 77 ≤ 98 ∨ 121 ≤ 77 ∧ 77 ≤ 124) by decide) (F_n F25 (show ¬ (11 ≤ 77 ∧ 77 ≤ 16 ∨ 18 ≤ 77 ∧ 77 ≤ 27 ∨ 36 ≤ 77 ∧ 77 ≤ 48) by decide) rfl))
  have t_48 : (M44.2.1 77 7).toInt = (M.2.1 77 7).toInt := congrArg Int32.toInt c_47
  have c_49 : M44.2.1 77 6 = (M.2.1 77 6) := (F_n F42 (show ¬ (77 = 77 ∧ 6 = 2 ∨ 94 ≤ 77 ∧ 77 ≤ 98 ∨ 121 ≤ 77 ∧ 77 ≤ 124) by decide) (F_n F25 (show ¬ (11 ≤ 77 ∧ 77 ≤ 16 ∨ 18 ≤ 77 ∧ 77 ≤ 27 ∨ 36 ≤ 77 ∧ 77 ≤ 48) by decide) rfl))
  have t_50 : (M44.2.1 77 6).toInt = (M.2.1 77 6).toInt := congrArg Int32.toInt c_49
  have c_51 : M44.2.1 1 1 = (M.2.1 1 1) := (F_n F42 (show ¬ (1 = 77 ∧ 1 = 2 ∨ 94 ≤ 1 ∧ 1 ≤ 98 ∨ 121 ≤ 1 ∧ 1 ≤ 124) by decide) (F_n F25 (show ¬ (11 ≤ 1 ∧ 1 ≤ 16 ∨ 18 ≤ 1 ∧ 1 ≤ 27 ∨ 36 ≤ 1 ∧ 1 ≤ 48) by decide) rfl))
  have t_52 : (M44.2.1 1 1).toInt = (M.2.1 1 1).toInt := congrArg Int32.toInt c_51
  have c_53 : M44.2.1 77 1 = (M.2.1 77 1) := (F_n F42 (show ¬ (77 = 77 ∧ 1 = 2 ∨ 94 ≤ 77 ∧ 77 ≤ 98 ∨ 121 ≤ 77 ∧ 77 ≤ 124) by decide) (F_n F25 (show ¬ (11 ≤ 77 ∧ 77 ≤ 16 ∨ 18 ≤ 77 ∧ 77 ≤ 27 ∨ 36 ≤ 77 ∧ 77 ≤ 48) by decide) rfl))
  have t_54 : (M44.2.1 77 1).toInt = (M.2.1 77 1).toInt := congrArg Int32.toInt c_53
  have c_55 : M44.2.1 0 12 = (M.2.1 0 12) := (F_n F42 (show ¬ (0 = 77 ∧ 12 = 2 ∨ 94 ≤ 0 ∧ 0 ≤ 98 ∨ 121 ≤ 0 ∧ 0 ≤ 124) by decide) (F_n F25 (show ¬ (11 ≤ 0 ∧ 0 ≤ 16 ∨ 18 ≤ 0 ∧ 0 ≤ 27 ∨ 36 ≤ 0 ∧ 0 ≤ 48) by decide) rfl))
  have t_56 : (M44.2.1 0 12).toInt = (M.2.1 0 12).toInt := congrArg Int32.toInt c_55
  have c_57 : M44.2.1 77 28 = (M.2.1 77 28) := (F_n F42 (show ¬ (77 = 77 ∧ 28 = 2 ∨ 94 ≤ 77 ∧ 77 ≤ 98 ∨ 121 ≤ 77 ∧ 77 ≤ 124) by decide) (F_n F25 (show ¬ (11 ≤ 77 ∧ 77 ≤ 16 ∨ 18 ≤ 77 ∧ 77 ≤ 27 ∨ 36 ≤ 77 ∧ 77 ≤ 48) by decide) rfl))
  have t_58 : (M44.2.1 77 28).toInt = (M.2.1 77 28).toInt := congrArg Int32.toInt c_57
  have c_59 : M44.2.1 17 4 = (M.2.1 17 4) := (F_n F42 (show ¬ (17 = 77 ∧ 4 = 2 ∨ 94 ≤ 17 ∧ 17 ≤ 98 ∨ 121 ≤ 17 ∧ 17 ≤ 124) by decide) (F_n F25 (show ¬ (11 ≤ 17 ∧ 17 ≤ 16 ∨ 18 ≤ 17 ∧ 17 ≤ 27 ∨ 36 ≤ 17 ∧ 17 ≤ 48) by decide) rfl))
  have t_60 : (M44.2.1 17 4).toInt = (M.2.1 17 4).toInt := congrArg Int32.toInt c_59
  have c_61 : M44.2.1 77 41 = (M.2.1 77 41) := (F_n F42 (show ¬ (77 = 77 ∧ 41 = 2 ∨ 94 ≤ 77 ∧ 77 ≤ 98 ∨ 121 ≤ 77 ∧ 77 ≤ 124) by decide) (F_n F25 (show ¬ (11 ≤ 77 ∧ 77 ≤ 16 ∨ 18 ≤ 77 ∧ 77 ≤ 27 ∨ 36 ≤ 77 ∧ 77 ≤ 48) by decide) rfl))
  have t_62 : (M44.2.1 77 41).toInt = (M.2.1 77 41).toInt := congrArg Int32.toInt c_61
  have c_63 : M44.2.1 6 0 = (M.2.1 6 0) := (F_n F42 (show ¬ (6 = 77 ∧ 0 = 2 ∨ 94 ≤ 6 ∧ 6 ≤ 98 ∨ 121 ≤ 6 ∧ 6 ≤ 124) by decide) (F_n F25 (show ¬ (11 ≤ 6 ∧ 6 ≤ 16 ∨ 18 ≤ 6 ∧ 6 ≤ 27 ∨ 36 ≤ 6 ∧ 6 ≤ 48) by decide) rfl))
  have t_64 : (M44.2.1 6 0).toInt = (M.2.1 6 0).toInt := congrArg Int32.toInt c_63
  have c_65 : M44.2.1 77 29 = (M.2.1 77 29) := (F_n F42 (show ¬ (77 = 77 ∧ 29 = 2 ∨ 94 ≤ 77 ∧ 77 ≤ 98 ∨ 121 ≤ 77 ∧ 77 ≤ 124) by decide) (F_n F25 (show ¬ (11 ≤ 77 ∧ 77 ≤ 16 ∨ 18 ≤ 77 ∧ 77 ≤ 27 ∨ 36 ≤ 77 ∧ 77 ≤ 48) by decide) rfl))
  have t_66 : (M44.2.1 77 29).toInt = (M.2.1 77 29).toInt := congrArg Int32.toInt c_65
  have c_67 : M44.2.1 28 8 = (M.2.1 28 8) := (F_n F42 (show ¬ (28 = 77 ∧ 8 = 2 ∨ 94 ≤ 28 ∧ 28 ≤ 98 ∨ 121 ≤ 28 ∧ 28 ≤ 124) by decide) (F_n F25 (show ¬ (11 ≤ 28 ∧ 28 ≤ 16 ∨ 18 ≤ 28 ∧ 28 ≤ 27 ∨ 36 ≤ 28 ∧ 28 ≤ 48) by decide) rfl))
  have t_68 : (M44.2.1 28 8).toInt = (M.2.1 28 8).toInt := congrArg Int32.toInt c_67
  have c_69 : M44.2.1 77 43 = (M.2.1 77 43) := (F_n F42 (show ¬ (77 = 77 ∧ 43 = 2 ∨ 94 ≤ 77 ∧ 77 ≤ 98 ∨ 121 ≤ 77 ∧ 77 ≤ 124) by decide) (F_n F25 (show ¬ (11 ≤ 77 ∧ 77 ≤ 16 ∨ 18 ≤ 77 ∧ 77 ≤ 27 ∨ 36 ≤ 77 ∧ 77 ≤ 48) by decide) rfl))
  have t_70 : (M44.2.1 77 43).toInt = (M.2.1 77 43).toInt := congrArg Int32.toInt c_69
  have c_71 : M44.2.1 28 9 = (M.2.1 28 9) := (F_n F42 (show ¬ (28 = 77 ∧ 9 = 2 ∨ 94 ≤ 28 ∧ 28 ≤ 98 ∨ 121 ≤ 28 ∧ 28 ≤ 124) by decide) (F_n F25 (show ¬ (11 ≤ 28 ∧ 28 ≤ 16 ∨ 18 ≤ 28 ∧ 28 ≤ 27 ∨ 36 ≤ 28 ∧ 28 ≤ 48) by decide) rfl))
  have t_72 : (M44.2.1 28 9).toInt = (M.2.1 28 9).toInt := congrArg Int32.toInt c_71
  have c_73 : M44.2.1 77 42 = (M.2.1 77 42) := (F_n F42 (show ¬ (77 = 77 ∧ 42 = 2 ∨ 94 ≤ 77 ∧ 77 ≤ 98 ∨ 121 ≤ 77 ∧ 77 ≤ 124) by decide) (F_n F25 (show ¬ (11 ≤ 77 ∧ 77 ≤ 16 ∨ 18 ≤ 77 ∧ 77 ≤ 27 ∨ 36 ≤ 77 ∧ 77 ≤ 48) by decide) rfl))
  have t_74 : (M44.2.1 77 42).toInt = (M.2.1 77 42).toInt := congrArg Int32.toInt c_73
  have j_75 := (PI_f (tg_729 F42) p_27)
  have j_76 := (NI_f (tg_730 F42) p_28)
  have j_77 := (QI_f (tg_731 F42) p_29)
  have j_78 := (PQE_r F42.2.1 (PQE_r F25.2.1 jPQE))
  have j_79 := (FA_f (tg_732 F42) j_40)
  have j_80 := (WC_f (tg_733 F42) (WC_f (tg_579 F25) jWC))
  have j_81 := (NJ_f (tg_734 F42) j_39)
  have j_82 := (PS_f (tg_735 F42) (PS_f (tg_582 F25) jPS))
  have j_83 := (KQ_f (tg_736 F42) (KQ_f (tg_584 F25) jKQ))
  have j_84 := (TP_f (tg_737 F42) (TP_f (tg_586 F25) jTP))
  have j_85 := (W9_f (tg_738 F42) (W9_f (tg_588 F25) jW9))
  have j_86 := (AN_F F42 tg_750 (AN_F F25 tg_636 jAN))
  have j_87 := (KNA_F F42 (fun a i z => show ¬ (a = 77 ∧ i = 2 ∨ 94 ≤ a ∧ a ≤ 98 ∨ 121 ≤ a ∧ a ≤ 124) by omega) (KNA_F F25 (fun a i z => show ¬ (11 ≤ a ∧ a ≤ 16 ∨ 18 ≤ a ∧ a ≤ 27 ∨ 36 ≤ a ∧ a ≤ 48) by omega) jKNA))
  have j_88 := (NE_r F42.2.1 (NE_r F25.2.1 jNE))
  have j_89 := (W8_f (tg_739 F42) (W8_f (tg_590 F25) jW8))
  exact h M44 (u5) (u6) ⟨⟨⟨⟨⟨⟨⟨⟨⟨hG43, ⟨j_75, j_76, j_77, j_78⟩, ⟨j_79, j_80, j_81, j_82, j_83⟩, by omega, by omega⟩, j_84, j_85⟩, j_88, by omega⟩, AN_a j_86⟩, by omega⟩, j_89⟩, by omega⟩, j_86⟩, j_87, by omega, by omega⟩ (by omega) (by omega)
set_option maxRecDepth 4000 in
set_option maxHeartbeats 0 in
theorem LW_29 {X : mm_X} {d L : Nat} {M : mm_M} {Q : Option Value → mm_M → Prop} {i : Int32} {u5 u6 : Value} (hX : g_X X) (hW : g_W X) (hW2 : g_W2 X) (hL : (X 0).1 = L) (h3 : L ≤ 3072) (hd : 40 ≤ d) (hi : 0 ≤ i.toInt) (hi2 : i.toInt + 6 ≤ (L : Int)) (H : LI10 M) (h : ∀ (M1 : mm_M) (v5 v6 : Value), LI10 M1 → M1.1.2.1 ≤ M.1.2.1 + 1 → M1.1.2.2.1 ≤ M.1.2.2.1 + 6 → mm_T X d 0 1313 [.ref mm_ext, .ref 0, .ref 77, .ref 125, .int i, v5, v6] [] M1 Q) : mm_T X d 0 1288 [.ref mm_ext, .ref 0, .ref 77, .ref 125, .int i, u5, u6] [] M Q := by
  obtain ⟨⟨⟨⟨⟨⟨⟨⟨⟨hG, ⟨jPI, jNI, jQI, jPQE⟩, ⟨jFA, jWC, jNJ, jPS, jKQ⟩, jJ, jE⟩, jTP, jW9⟩, jNE, jCC⟩, -⟩, jOV⟩, jW8⟩, jNN⟩, jAN⟩, jKNA, jDN, jPN⟩ := H
  have b_1 := g_b hG (a := 77) (i := 7) (lo := 0) (hi := 500) rfl rfl
  have b_2 := g_b hG (a := 77) (i := 6) (lo := 0) (hi := 500) rfl rfl
  have b_3 := g_b hG (a := 1) (i := 1) (lo := 0) (hi := 500) rfl rfl
  have b_4 := g_b hG (a := 77) (i := 1) (lo := 0) (hi := 500) rfl rfl
  have b_5 := g_b hG (a := 0) (i := 12) (lo := 0) (hi := 30) rfl rfl
  have b_6 := g_b hG (a := 77) (i := 28) (lo := 0) (hi := 30) rfl rfl
  have b_7 := g_b hG (a := 6) (i := 0) (lo := 0) (hi := 150) rfl rfl
  have b_8 := g_b hG (a := 77) (i := 29) (lo := 0) (hi := 150) rfl rfl
  have b_9 := g_b hG (a := 28) (i := 8) (lo := 0) (hi := 3000) rfl rfl
  have b_10 := g_b hG (a := 77) (i := 43) (lo := 0) (hi := 3000) rfl rfl
  refine to_an (pc := 1288) rw_0_1288 rfl (to_an (pc := 1289) rw_0_1289 rfl (to_i (pc := 1290) rw_0_1290 rfl (to_c (pc := 1292) rw_0_1292 (x := (1 : Int32)) rfl rfl (s_add (pc := 1293) rw_0_1293 (A := i.toInt) (B := 1) rfl rfl (by omega) (fun v11 e12 => s_x0 (pc := 1294) rw_0_1294 hL (A := v11.toInt) rfl (by omega) (by omega) (fun v13 e14 => s_v (pc := 1295) rw_0_1295 (dp0 hd (by decide)) (ls0 := [.ref 0, .int v13]) rfl (Nat.le_of_ble_eq_true rfl) (Nat.le_of_ble_eq_true rfl) rfl (to_rc rfl rfl rfl (g_o hG rfl)) rfl ?_))))))
  obtain ⟨pz15, pzz15, qz15, qzz15, hpz15, hpzz15, hqz15, hqzz15, hpqz15⟩ := id jPQE
  have z_16 := KNA_u hpqz15 jKNA
  obtain ⟨sg, NN, nz, ca, hs1, hs2, hn1, hn2, hn3, hn4, hn5⟩ := AN_u jAN hpqz15
  refine E_138 hX (dp1 hd (by decide)) hG hpz15 hpzz15 hqz15 hqzz15 hpqz15 (w := v13) (p := pz15) (pz := pzz15) (q := qz15) (qz := qzz15) (fun r17 M21 hG19 F18 p_20 => ?_)
  have n_22 : M21.1.2.1 = M.1.2.1 ∧ M21.1.2.2.1 = M.1.2.2.1 := by rw [F18.1]; exact ⟨rfl, rfl⟩
  have j_24 := (PLs_f (fun a i z => F_n F18 (show ¬ (a < 0) by omega) rfl) hs1.1)
  have c_25 : M21.2.1 0 12 = (M.2.1 0 12) := (F_n F18 (show ¬ (0 < 0) by decide) rfl)
  have t_26 : (M21.2.1 0 12).toInt = (M.2.1 0 12).toInt := congrArg Int32.toInt c_25
  have c_27 : M21.2.1 6 0 = (M.2.1 6 0) := (F_n F18 (show ¬ (6 < 0) by decide) rfl)
  have t_28 : (M21.2.1 6 0).toInt = (M.2.1 6 0).toInt := congrArg Int32.toInt c_27
  have c_29 : M21.2.1 28 9 = (M.2.1 28 9) := (F_n F18 (show ¬ (28 < 0) by decide) rfl)
  have t_30 : (M21.2.1 28 9).toInt = (M.2.1 28 9).toInt := congrArg Int32.toInt c_29
  have c_31 : M21.2.1 28 8 = (M.2.1 28 8) := (F_n F18 (show ¬ (28 < 0) by decide) rfl)
  have t_32 : (M21.2.1 28 8).toInt = (M.2.1 28 8).toInt := congrArg Int32.toInt c_31
  refine to_an (pc := 1298) rw_0_1298 rfl (to_an (pc := 1299) rw_0_1299 rfl (to_i (pc := 1300) rw_0_1300 rfl (to_c (pc := 1302) rw_0_1302 (x := (1 : Int32)) rfl rfl (s_addk (pc := 1303) rw_0_1303 (A := i.toInt) (B := 1) rfl rfl (by omega) (v := v11) e12 (s_x0k (pc := 1304) rw_0_1304 hL (A := v11.toInt) rfl (by omega) (by omega) (v := v13) e14 (s_v (pc := 1305) rw_0_1305 (dp0 hd (by decide)) (ls0 := [.ref 77, .int v13]) rfl (Nat.le_of_ble_eq_true rfl) (Nat.le_of_ble_eq_true rfl) rfl (to_rc rfl rfl rfl (g_o hG19 rfl)) rfl (E_246 hX (dp1 hd (by decide)) hG19 (w := v13) (fun r35 M39 hG37 F36 p_38 => ?_))))))))
  have n_40 : M39.1.2.1 = M21.1.2.1 ∧ M39.1.2.2.1 = M21.1.2.2.1 := by rw [F36.1]; exact ⟨rfl, rfl⟩
  have j_42 := (PLk_f (tg_740 F36) (PLk_f (tg_101 F18) hs2.1))
  have c_43 : M39.2.1 77 28 = (M.2.1 77 28) := (F_n F36 (show ¬ (77 = 77 ∧ 28 = 2) by decide) (F_n F18 (show ¬ (77 < 0) by decide) rfl))
  have t_44 : (M39.2.1 77 28).toInt = (M.2.1 77 28).toInt := congrArg Int32.toInt c_43
  have c_45 : M39.2.1 77 29 = (M.2.1 77 29) := (F_n F36 (show ¬ (77 = 77 ∧ 29 = 2) by decide) (F_n F18 (show ¬ (77 < 0) by decide) rfl))
  have t_46 : (M39.2.1 77 29).toInt = (M.2.1 77 29).toInt := congrArg Int32.toInt c_45
  have c_47 : M39.2.1 77 42 = (M.2.1 77 42) := (F_n F36 (show ¬ (77 = 77 ∧ 42 = 2) by decide) (F_n F18 (show ¬ (77 < 0) by decide) rfl))
  have t_48 : (M39.2.1 77 42).toInt = (M.2.1 77 42).toInt := congrArg Int32.toInt c_47
  have c_49 : M39.2.1 77 43 = (M.2.1 77 43) := (F_n F36 (show ¬ (77 = 77 ∧ 43 = 2) by decide) (F_n F18 (show ¬ (77 < 0) by decide) rfl))
  have t_50 : (M39.2.1 77 43).toInt = (M.2.1 77 43).toInt := congrArg Int32.toInt c_49
  have z_51 := x_cnt_q p_20 p_38 (j_24.2.1.trans j_42.2.1.symm) (j_24.2.2.1.trans j_42.2.2.1.symm) (j_24.2.2.2.1.trans j_42.2.2.2.1.symm) (by omega) (by omega) (((congrArg Int32.toInt (F_n F18 (show ¬ (qz15 < 0) by omega) rfl)).trans z_16.2).trans (congrArg Int32.toInt (F_n F36 (show ¬ (77 = 77 ∧ 58 = 2) by decide) (F_n F18 (show ¬ (77 < 0) by decide) rfl))).symm) (by omega) (by omega)
  refine b_ceq (pc := 1308) rw_0_1308 (A := r17.toInt) (B := r35.toInt) rfl rfl (fun h52 => ?_) (fun h52 => ?_)
  · have c_53 : M39.2.1 77 7 = (M.2.1 77 7) := (F_n F36 (show ¬ (77 = 77 ∧ 7 = 2) by decide) (F_n F18 (show ¬ (77 < 0) by decide) rfl))
    have t_54 : (M39.2.1 77 7).toInt = (M.2.1 77 7).toInt := congrArg Int32.toInt c_53
    have c_55 : M39.2.1 77 6 = (M.2.1 77 6) := (F_n F36 (show ¬ (77 = 77 ∧ 6 = 2) by decide) (F_n F18 (show ¬ (77 < 0) by decide) rfl))
    have t_56 : (M39.2.1 77 6).toInt = (M.2.1 77 6).toInt := congrArg Int32.toInt c_55
    have c_57 : M39.2.1 1 1 = (M.2.1 1 1) := (F_n F36 (show ¬ (1 = 77 ∧ 1 = 2) by decide) (F_n F18 (show ¬ (1 < 0) by decide) rfl))
    have t_58 : (M39.2.1 1 1).toInt = (M.2.1 1 1).toInt := congrArg Int32.toInt c_57
    have c_59 : M39.2.1 77 1 = (M.2.1 77 1) := (F_n F36 (show ¬ (77 = 77 ∧ 1 = 2) by decide) (F_n F18 (show ¬ (77 < 0) by decide) rfl))
    have t_60 : (M39.2.1 77 1).toInt = (M.2.1 77 1).toInt := congrArg Int32.toInt c_59
    have c_61 : M39.2.1 0 12 = (M.2.1 0 12) := (F_n F36 (show ¬ (0 = 77 ∧ 12 = 2) by decide) c_25)
    have t_62 : (M39.2.1 0 12).toInt = (M.2.1 0 12).toInt := congrArg Int32.toInt c_61
    have c_63 : M39.2.1 17 4 = (M.2.1 17 4) := (F_n F36 (show ¬ (17 = 77 ∧ 4 = 2) by decide) (F_n F18 (show ¬ (17 < 0) by decide) rfl))
    have t_64 : (M39.2.1 17 4).toInt = (M.2.1 17 4).toInt := congrArg Int32.toInt c_63
    have c_65 : M39.2.1 77 41 = (M.2.1 77 41) := (F_n F36 (show ¬ (77 = 77 ∧ 41 = 2) by decide) (F_n F18 (show ¬ (77 < 0) by decide) rfl))
    have t_66 : (M39.2.1 77 41).toInt = (M.2.1 77 41).toInt := congrArg Int32.toInt c_65
    have c_67 : M39.2.1 6 0 = (M.2.1 6 0) := (F_n F36 (show ¬ (6 = 77 ∧ 0 = 2) by decide) c_27)
    have t_68 : (M39.2.1 6 0).toInt = (M.2.1 6 0).toInt := congrArg Int32.toInt c_67
    have c_69 : M39.2.1 28 8 = (M.2.1 28 8) := (F_n F36 (show ¬ (28 = 77 ∧ 8 = 2) by decide) c_31)
    have t_70 : (M39.2.1 28 8).toInt = (M.2.1 28 8).toInt := congrArg Int32.toInt c_69
    have c_71 : M39.2.1 28 9 = (M.2.1 28 9) := (F_n F36 (show ¬ (28 = 77 ∧ 9 = 2) by decide) c_29)
    have t_72 : (M39.2.1 28 9).toInt = (M.2.1 28 9).toInt := congrArg Int32.toInt c_71
    have j_73 := (PI_f (tg_557 F36) (PI_f (tg_99 F18) jPI))
    have j_74 := (NI_f (tg_558 F36) (NI_f (tg_98 F18) jNI))
    have j_75 := (QI_f (tg_559 F36) (QI_f (tg_100 F18) jQI))
    have j_76 := (PQE_r F36.2.1 (PQE_r F18.2.1 jPQE))
    have j_77 := (FA_f (tg_560 F36) (FA_f (tg_299 F18) jFA))
    have j_78 := (WC_f (tg_561 F36) (WC_f (tg_562 F18) jWC))
    have j_79 := (NJ_f (tg_563 F36) (NJ_f (tg_102 F18) jNJ))
    have j_80 := (PS_f (tg_564 F36) (PS_f (tg_565 F18) jPS))
    have j_81 := (KQ_f (tg_566 F36) (KQ_f (tg_416 F18) jKQ))
    have j_82 := (TP_f (tg_567 F36) (TP_f (tg_568 F18) jTP))
    have j_83 := (W9_f (tg_569 F36) (W9_f (tg_46 F18) jW9))
    have j_84 := (AN_F F36 tg_633 (AN_F F18 tg_634 jAN))
    have j_85 := (KNA_F F36 (fun a i z => show ¬ (a = 77 ∧ i = 2) by omega) (KNA_F F18 (fun a i z => show ¬ (a < 0) by omega) jKNA))
    have j_86 := (NE_r F36.2.1 (NE_r F18.2.1 jNE))
    have j_87 := (W8_f (tg_570 F36) (W8_f (tg_571 F18) jW8))
    exact h M39 (u5) (u6) ⟨⟨⟨⟨⟨⟨⟨⟨⟨hG37, ⟨j_73, j_74, j_75, j_76⟩, ⟨j_77, j_78, j_79, j_80, j_81⟩, by omega, by omega⟩, j_82, j_83⟩, j_86, by omega⟩, AN_a j_84⟩, by omega⟩, j_87⟩, by omega⟩, j_84⟩, j_85, by omega, by omega⟩ (by omega) (by omega)
  · exfalso; omega
