theorem zz_32 : ∀ j, rLo 32 j ≤ 0 ∧ 0 ≤ rHi 32 j := fun j => ⟨(by decide : (0 : Int) ≤ 0), (by decide : (0 : Int) ≤ 6)⟩
theorem zr_32 : ∀ j, rR 32 j = 0 := fun j => rfl
theorem zz_33 : ∀ j, rLo 33 j ≤ 0 ∧ 0 ≤ rHi 33 j := fun j => ⟨(by decide : (0 : Int) ≤ 0), (by decide : (0 : Int) ≤ 6)⟩
theorem zr_33 : ∀ j, rR 33 j = 0 := fun j => rfl
theorem zz_34 : ∀ j, rLo 34 j ≤ 0 ∧ 0 ≤ rHi 34 j := fun j => ⟨(by decide : (0 : Int) ≤ 0), (by decide : (0 : Int) ≤ 50)⟩
theorem zr_34 : ∀ j, rR 34 j = 0 := fun j => rfl
theorem zz_35 : ∀ j, rLo 35 j ≤ 0 ∧ 0 ≤ rHi 35 j := fun j => ⟨(by decide : (-1000 : Int) ≤ 0), (by decide : (0 : Int) ≤ 1000)⟩
theorem zr_35 : ∀ j, rR 35 j = 0 := fun j => rfl
theorem zz_36 : ∀ j, rLo 36 j ≤ 0 ∧ 0 ≤ rHi 36 j := fun j => ⟨(by decide : (-1000 : Int) ≤ 0), (by decide : (0 : Int) ≤ 1000)⟩
theorem zr_36 : ∀ j, rR 36 j = 0 := fun j => rfl
theorem zz_37 : ∀ j, rLo 37 j ≤ 0 ∧ 0 ≤ rHi 37 j := fun j => ⟨(by decide : (0 : Int) ≤ 0), (by decide : (0 : Int) ≤ 1)⟩
theorem zr_37 : ∀ j, rR 37 j = 0 := fun j => rfl
theorem zz_38 : ∀ j, rLo 38 j ≤ 0 ∧ 0 ≤ rHi 38 j := fun j => ⟨(by decide : (-2147483648 : Int) ≤ 0), (by decide : (0 : Int) ≤ 2147483647)⟩
theorem zr_38 : ∀ j, rR 38 j = 0 := fun j => rfl
theorem zz_39 : ∀ j, rLo 39 j ≤ 0 ∧ 0 ≤ rHi 39 j := fun j => ⟨(by decide : (-1 : Int) ≤ 0), (by decide : (0 : Int) ≤ 31)⟩
theorem zr_39 : ∀ j, rR 39 j = 0 := fun j => rfl
theorem zz_40 : ∀ j, rLo 40 j ≤ 0 ∧ 0 ≤ rHi 40 j := fun j => ⟨(by decide : (-2147483648 : Int) ≤ 0), (by decide : (0 : Int) ≤ 2147483647)⟩
theorem zr_40 : ∀ j, rR 40 j = 0 := fun j => rfl
theorem zz_41 : ∀ j, rLo 41 j ≤ 0 ∧ 0 ≤ rHi 41 j := fun j => ⟨(by decide : (0 : Int) ≤ 0), (by decide : (0 : Int) ≤ 1)⟩
theorem zr_41 : ∀ j, rR 41 j = 0 := fun j => rfl
theorem zz_42 : ∀ j, rLo 42 j ≤ 0 ∧ 0 ≤ rHi 42 j := fun j => ⟨(by decide : (-2147483648 : Int) ≤ 0), (by decide : (0 : Int) ≤ 2147483647)⟩
theorem zr_42 : ∀ j, rR 42 j = 0 := fun j => rfl
theorem zz_43 : ∀ j, rLo 43 j ≤ 0 ∧ 0 ≤ rHi 43 j := fun j => ⟨(by decide : (0 : Int) ≤ 0), (by decide : (0 : Int) ≤ 9)⟩
theorem zr_43 : ∀ j, rR 43 j = 0 := fun j => rfl
theorem zz_44 : ∀ j, rLo 44 j ≤ 0 ∧ 0 ≤ rHi 44 j := fun j => ⟨(by decide : (0 : Int) ≤ 0), (by decide : (0 : Int) ≤ 9)⟩
theorem zr_44 : ∀ j, rR 44 j = 0 := fun j => rfl
theorem zz_45 : ∀ j, rLo 45 j ≤ 0 ∧ 0 ≤ rHi 45 j := fun j => ⟨(by decide : (-2147483648 : Int) ≤ 0), (by decide : (0 : Int) ≤ 2147483647)⟩
theorem zr_45 : ∀ j, rR 45 j = 0 := fun j => rfl
theorem zz_46 : ∀ j, rLo 46 j ≤ 0 ∧ 0 ≤ rHi 46 j := fun j => ⟨(by decide : (-2147483648 : Int) ≤ 0), (by decide : (0 : Int) ≤ 2147483647)⟩
theorem zr_46 : ∀ j, rR 46 j = 0 := fun j => rfl
theorem zz_47 : ∀ j, rLo 47 j ≤ 0 ∧ 0 ≤ rHi 47 j := fun j => ⟨(by decide : (0 : Int) ≤ 0), (by decide : (0 : Int) ≤ 9)⟩
theorem zr_47 : ∀ j, rR 47 j = 0 := fun j => rfl
theorem zz_48 : ∀ j, rLo 48 j ≤ 0 ∧ 0 ≤ rHi 48 j := fun j => ⟨(by decide : (0 : Int) ≤ 0), (by decide : (0 : Int) ≤ 9)⟩
theorem zr_48 : ∀ j, rR 48 j = 0 := fun j => rfl
theorem zz_49 : ∀ j, rLo 49 j ≤ 0 ∧ 0 ≤ rHi 49 j := fun j => ⟨(by decide : (-2147483648 : Int) ≤ 0), (by decide : (0 : Int) ≤ 2147483647)⟩
theorem zr_49 : ∀ j, rR 49 j = 0 := fun j => rfl
theorem zz_50 : ∀ j, rLo 50 j ≤ 0 ∧ 0 ≤ rHi 50 j := fun j => ⟨(by decide : (-2147483648 : Int) ≤ 0), (by decide : (0 : Int) ≤ 2147483647)⟩
theorem zr_50 : ∀ j, rR 50 j = 0 := fun j => rfl
theorem zz_52 : ∀ j, rLo 52 j ≤ 0 ∧ 0 ≤ rHi 52 j := fun j => ⟨(by decide : (0 : Int) ≤ 0), (by decide : (0 : Int) ≤ 9)⟩
theorem zr_52 : ∀ j, rR 52 j = 0 := fun j => rfl
theorem zz_53 : ∀ j, rLo 53 j ≤ 0 ∧ 0 ≤ rHi 53 j := fun j => ⟨(by decide : (-2147483648 : Int) ≤ 0), (by decide : (0 : Int) ≤ 2147483647)⟩
theorem zr_53 : ∀ j, rR 53 j = 0 := fun j => rfl
theorem zz_54 : ∀ j, rLo 54 j ≤ 0 ∧ 0 ≤ rHi 54 j := fun j => ⟨(by decide : (0 : Int) ≤ 0), (by decide : (0 : Int) ≤ 6)⟩
theorem zr_54 : ∀ j, rR 54 j = 0 := fun j => rfl
theorem zz_55 : ∀ j, rLo 55 j ≤ 0 ∧ 0 ≤ rHi 55 j := fun j => ⟨(by decide : (-1000 : Int) ≤ 0), (by decide : (0 : Int) ≤ 1000)⟩
theorem zr_55 : ∀ j, rR 55 j = 0 := fun j => rfl
theorem zz_58 : ∀ j, rLo 58 j ≤ 0 ∧ 0 ≤ rHi 58 j := fun j => ⟨(by decide : (-2147483648 : Int) ≤ 0), (by decide : (0 : Int) ≤ 2147483647)⟩
theorem zr_58 : ∀ j, rR 58 j = 0 := fun j => rfl
theorem zz_59 : ∀ j, rLo 59 j ≤ 0 ∧ 0 ≤ rHi 59 j := fun j => ⟨(by decide : (-2147483648 : Int) ≤ 0), (by decide : (0 : Int) ≤ 2147483647)⟩
theorem zr_59 : ∀ j, rR 59 j = 0 := fun j => rfl
theorem zz_60 : ∀ j, rLo 60 j ≤ 0 ∧ 0 ≤ rHi 60 j := fun j => ⟨(by decide : (-2147483648 : Int) ≤ 0), (by decide : (0 : Int) ≤ 2147483647)⟩
theorem zr_60 : ∀ j, rR 60 j = 0 := fun j => rfl
theorem zz_64 : ∀ j, rLo 64 j ≤ 0 ∧ 0 ≤ rHi 64 j := fun j => ⟨(by decide : (0 : Int) ≤ 0), (by decide : (0 : Int) ≤ 6)⟩
theorem zr_64 : ∀ j, rR 64 j = 0 := fun j => rfl
theorem zz_65 : ∀ j, rLo 65 j ≤ 0 ∧ 0 ≤ rHi 65 j := fun j => ⟨(by decide : (0 : Int) ≤ 0), (by decide : (0 : Int) ≤ 6)⟩
theorem zr_65 : ∀ j, rR 65 j = 0 := fun j => rfl
theorem zz_66 : ∀ j, rLo 66 j ≤ 0 ∧ 0 ≤ rHi 66 j := fun j => ⟨(by decide : (0 : Int) ≤ 0), (by decide : (0 : Int) ≤ 50)⟩
theorem zr_66 : ∀ j, rR 66 j = 0 := fun j => rfl
theorem zz_67 : ∀ j, rLo 67 j ≤ 0 ∧ 0 ≤ rHi 67 j := fun j => ⟨(by decide : (-1000 : Int) ≤ 0), (by decide : (0 : Int) ≤ 1000)⟩
theorem zr_67 : ∀ j, rR 67 j = 0 := fun j => rfl
theorem zz_68 : ∀ j, rLo 68 j ≤ 0 ∧ 0 ≤ rHi 68 j := fun j => ⟨(by decide : (-1000 : Int) ≤ 0), (by decide : (0 : Int) ≤ 1000)⟩
theorem zr_68 : ∀ j, rR 68 j = 0 := fun j => rfl
theorem zz_69 : ∀ j, rLo 69 j ≤ 0 ∧ 0 ≤ rHi 69 j := fun j => ⟨(by decide : (0 : Int) ≤ 0), (by decide : (0 : Int) ≤ 1)⟩
theorem zr_69 : ∀ j, rR 69 j = 0 := fun j => rfl
theorem zz_70 : ∀ j, rLo 70 j ≤ 0 ∧ 0 ≤ rHi 70 j := fun j => ⟨(by decide : (0 : Int) ≤ 0), (by decide : (0 : Int) ≤ 6)⟩
theorem zr_70 : ∀ j, rR 70 j = 0 := fun j => rfl
theorem zz_71 : ∀ j, rLo 71 j ≤ 0 ∧ 0 ≤ rHi 71 j := fun j => ⟨(by decide : (0 : Int) ≤ 0), (by decide : (0 : Int) ≤ 99)⟩
theorem zr_71 : ∀ j, rR 71 j = 0 := fun j => rfl
theorem zz_72 : ∀ j, rLo 72 j ≤ 0 ∧ 0 ≤ rHi 72 j := fun j => ⟨(by decide : (0 : Int) ≤ 0), (by decide : (0 : Int) ≤ 4)⟩
theorem zr_72 : ∀ j, rR 72 j = 0 := fun j => rfl
theorem zz_73 : ∀ j, rLo 73 j ≤ 0 ∧ 0 ≤ rHi 73 j := fun j => ⟨(by decide : (0 : Int) ≤ 0), (by decide : (0 : Int) ≤ 6)⟩
theorem zr_73 : ∀ j, rR 73 j = 0 := fun j => rfl
theorem zz_74 : ∀ j, rLo 74 j ≤ 0 ∧ 0 ≤ rHi 74 j := fun j => ⟨(by decide : (0 : Int) ≤ 0), (by decide : (0 : Int) ≤ 6)⟩
theorem zr_74 : ∀ j, rR 74 j = 0 := fun j => rfl
theorem zz_75 : ∀ j, rLo 75 j ≤ 0 ∧ 0 ≤ rHi 75 j := fun j => ⟨(by decide : (0 : Int) ≤ 0), (by decide : (0 : Int) ≤ 2)⟩
theorem zr_75 : ∀ j, rR 75 j = 0 := fun j => rfl
theorem zz_76 : ∀ j, rLo 76 j ≤ 0 ∧ 0 ≤ rHi 76 j := fun j => ⟨(by decide : (-1 : Int) ≤ 0), (by decide : (0 : Int) ≤ 2)⟩
theorem zr_76 : ∀ j, rR 76 j = 0 := fun j => rfl
theorem zz_77 : ∀ j, rLo 77 j ≤ 0 ∧ 0 ≤ rHi 77 j := fun j => ⟨(by decide : (-2147483648 : Int) ≤ 0), (by decide : (0 : Int) ≤ 2147483647)⟩
theorem zr_77 : ∀ j, rR 77 j = 0 := fun j => rfl
theorem zz_78 : ∀ j, rLo 78 j ≤ 0 ∧ 0 ≤ rHi 78 j := fun j => ⟨(by decide : (-1000 : Int) ≤ 0), (by decide : (0 : Int) ≤ 1000)⟩
theorem zr_78 : ∀ j, rR 78 j = 0 := fun j => rfl
theorem zz_79 : ∀ j, rLo 79 j ≤ 0 ∧ 0 ≤ rHi 79 j := fun j => ⟨(by decide : (0 : Int) ≤ 0), (by decide : (0 : Int) ≤ 1)⟩
theorem zr_79 : ∀ j, rR 79 j = 0 := fun j => rfl
theorem zz_80 : ∀ j, rLo 80 j ≤ 0 ∧ 0 ≤ rHi 80 j := fun j => ⟨(by decide : (0 : Int) ≤ 0), (by decide : (0 : Int) ≤ 1)⟩
theorem zr_80 : ∀ j, rR 80 j = 0 := fun j => rfl
theorem zz_81 : ∀ j, rLo 81 j ≤ 0 ∧ 0 ≤ rHi 81 j := fun j => ⟨(by decide : (-2147483648 : Int) ≤ 0), (by decide : (0 : Int) ≤ 2147483647)⟩
theorem zr_81 : ∀ j, rR 81 j = 0 := fun j => rfl
theorem zz_82 : ∀ j, rLo 82 j ≤ 0 ∧ 0 ≤ rHi 82 j := fun j => ⟨(by decide : (0 : Int) ≤ 0), (by decide : (0 : Int) ≤ 9)⟩
theorem zr_82 : ∀ j, rR 82 j = 0 := fun j => rfl
theorem zz_83 : ∀ j, rLo 83 j ≤ 0 ∧ 0 ≤ rHi 83 j := fun j => ⟨(by decide : (-2147483648 : Int) ≤ 0), (by decide : (0 : Int) ≤ 2147483647)⟩
theorem zr_83 : ∀ j, rR 83 j = 0 := fun j => rfl
theorem zz_84 : ∀ j, rLo 84 j ≤ 0 ∧ 0 ≤ rHi 84 j := fun j => ⟨(by decide : (-2147483648 : Int) ≤ 0), (by decide : (0 : Int) ≤ 2147483647)⟩
theorem zr_84 : ∀ j, rR 84 j = 0 := fun j => rfl
theorem zz_85 : ∀ j, rLo 85 j ≤ 0 ∧ 0 ≤ rHi 85 j := fun j => ⟨(by decide : (-2147483648 : Int) ≤ 0), (by decide : (0 : Int) ≤ 2147483647)⟩
theorem zr_85 : ∀ j, rR 85 j = 0 := fun j => rfl
theorem zz_86 : ∀ j, rLo 86 j ≤ 0 ∧ 0 ≤ rHi 86 j := fun j => ⟨(by decide : (0 : Int) ≤ 0), (by decide : (0 : Int) ≤ 6)⟩
theorem zr_86 : ∀ j, rR 86 j = 0 := fun j => rfl
theorem zz_87 : ∀ j, rLo 87 j ≤ 0 ∧ 0 ≤ rHi 87 j := fun j => ⟨(by decide : (0 : Int) ≤ 0), (by decide : (0 : Int) ≤ 31)⟩
theorem zr_87 : ∀ j, rR 87 j = 0 := fun j => rfl
theorem zz_88 : ∀ j, rLo 88 j ≤ 0 ∧ 0 ≤ rHi 88 j := fun j => ⟨(by decide : (-2147483648 : Int) ≤ 0), (by decide : (0 : Int) ≤ 2147483647)⟩
theorem zr_88 : ∀ j, rR 88 j = 0 := fun j => rfl
theorem zz_89 : ∀ j, rLo 89 j ≤ 0 ∧ 0 ≤ rHi 89 j := fun j => ⟨(by decide : (0 : Int) ≤ 0), (by decide : (0 : Int) ≤ 31)⟩
theorem zr_89 : ∀ j, rR 89 j = 0 := fun j => rfl
theorem zz_90 : ∀ j, rLo 90 j ≤ 0 ∧ 0 ≤ rHi 90 j := fun j => ⟨(by decide : (0 : Int) ≤ 0), (by decide : (0 : Int) ≤ 4)⟩
theorem zr_90 : ∀ j, rR 90 j = 0 := fun j => rfl
theorem zz_91 : ∀ j, rLo 91 j ≤ 0 ∧ 0 ≤ rHi 91 j := fun j => ⟨(by decide : (0 : Int) ≤ 0), (by decide : (0 : Int) ≤ 4)⟩
theorem zr_91 : ∀ j, rR 91 j = 0 := fun j => rfl
theorem zz_92 : ∀ j, rLo 92 j ≤ 0 ∧ 0 ≤ rHi 92 j := fun j => ⟨(by decide : (0 : Int) ≤ 0), (by decide : (0 : Int) ≤ 4)⟩
theorem zr_92 : ∀ j, rR 92 j = 0 := fun j => rfl
theorem zz_93 : ∀ j, rLo 93 j ≤ 0 ∧ 0 ≤ rHi 93 j := fun j => ⟨(by decide : (-2147483648 : Int) ≤ 0), (by decide : (0 : Int) ≤ 2147483647)⟩
theorem zr_93 : ∀ j, rR 93 j = 0 := fun j => rfl
theorem zz_94 : ∀ j, rLo 94 j ≤ 0 ∧ 0 ≤ rHi 94 j := fun j => ⟨(by decide : (0 : Int) ≤ 0), (by decide : (0 : Int) ≤ 9)⟩
theorem zr_94 : ∀ j, rR 94 j = 0 := fun j => rfl
theorem zz_95 : ∀ j, rLo 95 j ≤ 0 ∧ 0 ≤ rHi 95 j := fun j => ⟨(by decide : (-2147483648 : Int) ≤ 0), (by decide : (0 : Int) ≤ 2147483647)⟩
theorem zr_95 : ∀ j, rR 95 j = 0 := fun j => rfl
theorem zz_96 : ∀ j, rLo 96 j ≤ 0 ∧ 0 ≤ rHi 96 j := fun j => ⟨(by decide : (0 : Int) ≤ 0), (by decide : (0 : Int) ≤ 9)⟩
theorem zr_96 : ∀ j, rR 96 j = 0 := fun j => rfl
theorem zz_97 : ∀ j, rLo 97 j ≤ 0 ∧ 0 ≤ rHi 97 j := fun j => ⟨(by decide : (0 : Int) ≤ 0), (by decide : (0 : Int) ≤ 119)⟩
theorem zr_97 : ∀ j, rR 97 j = 0 := fun j => rfl
theorem zz_98 : ∀ j, rLo 98 j ≤ 0 ∧ 0 ≤ rHi 98 j := fun j => ⟨(by decide : (0 : Int) ≤ 0), (by decide : (0 : Int) ≤ 4)⟩
theorem zr_98 : ∀ j, rR 98 j = 0 := fun j => rfl
theorem zz_99 : ∀ j, rLo 99 j ≤ 0 ∧ 0 ≤ rHi 99 j := fun j => ⟨(by decide : (-2147483648 : Int) ≤ 0), (by decide : (0 : Int) ≤ 2147483647)⟩
theorem zr_99 : ∀ j, rR 99 j = 0 := fun j => rfl
theorem zz_100 : ∀ j, rLo 100 j ≤ 0 ∧ 0 ≤ rHi 100 j := fun j => ⟨(by decide : (-2147483648 : Int) ≤ 0), (by decide : (0 : Int) ≤ 2147483647)⟩
theorem zr_100 : ∀ j, rR 100 j = 0 := fun j => rfl
theorem zz_16 : ∀ j, rLo 16 j ≤ 0 ∧ 0 ≤ rHi 16 j := fun j => ⟨(by decide : (-2147483648 : Int) ≤ 0), (by decide : (0 : Int) ≤ 2147483647)⟩
theorem zr_16 : ∀ j, rR 16 j = 0 := fun j => rfl
theorem df_0 : ∀ j, j < 2 → defaultValue (tyX0 j) = (if fT 0 j = 0 then Value.int 0 else if fT 0 j = 1 then .long 0 else .null) := by
  intro j hj
  rcases (show j = 0 ∨ j = 1 by omega) with rfl | rfl <;> rfl
theorem zz_17 : ∀ j, rLo 17 j ≤ 0 ∧ 0 ≤ rHi 17 j := fun j => ⟨(by decide : (-2147483648 : Int) ≤ 0), (by decide : (0 : Int) ≤ 2147483647)⟩
theorem zr_17 : ∀ j, rR 17 j = 0 := fun j => rfl
theorem df_1 : ∀ j, j < 11 → defaultValue (tyX1 j) = (if fT 1 j = 0 then Value.int 0 else if fT 1 j = 1 then .long 0 else .null) := by
  intro j hj
  rcases (show j = 0 ∨ j = 1 ∨ j = 2 ∨ j = 3 ∨ j = 4 ∨ j = 5 ∨ j = 6 ∨ j = 7 ∨ j = 8 ∨ j = 9 ∨ j = 10 by omega) with rfl | rfl | rfl | rfl | rfl | rfl | rfl | rfl | rfl | rfl | rfl <;> rfl
theorem zz_18 : ∀ j, rLo 18 j ≤ 0 ∧ 0 ≤ rHi 18 j := fun j => ⟨(by decide : (-2147483648 : Int) ≤ 0), (by decide : (0 : Int) ≤ 2147483647)⟩
theorem zr_18 : ∀ j, rR 18 j = 0 := fun j => rfl
theorem df_2 : ∀ j, j < 2 → defaultValue (tyX2 j) = (if fT 2 j = 0 then Value.int 0 else if fT 2 j = 1 then .long 0 else .null) := by
  intro j hj
  rcases (show j = 0 ∨ j = 1 by omega) with rfl | rfl <;> rfl
theorem zz_19 : ∀ j, rLo 19 j ≤ 0 ∧ 0 ≤ rHi 19 j := fun j => ⟨(by decide : (-2147483648 : Int) ≤ 0), (by decide : (0 : Int) ≤ 2147483647)⟩
theorem zr_19 : ∀ j, rR 19 j = 0 := fun j => rfl
theorem df_3 : ∀ j, j < 7 → defaultValue (tyX3 j) = (if fT 3 j = 0 then Value.int 0 else if fT 3 j = 1 then .long 0 else .null) := by
  intro j hj
  rcases (show j = 0 ∨ j = 1 ∨ j = 2 ∨ j = 3 ∨ j = 4 ∨ j = 5 ∨ j = 6 by omega) with rfl | rfl | rfl | rfl | rfl | rfl | rfl <;> rfl
theorem zz_20 : ∀ j, rLo 20 j ≤ 0 ∧ 0 ≤ rHi 20 j := fun j => ⟨(by decide : (-2147483648 : Int) ≤ 0), (by decide : (0 : Int) ≤ 2147483647)⟩
theorem zr_20 : ∀ j, rR 20 j = 0 := fun j => rfl
theorem df_4 : ∀ j, j < 5 → defaultValue (tyX4 j) = (if fT 4 j = 0 then Value.int 0 else if fT 4 j = 1 then .long 0 else .null) := by
  intro j hj
  rcases (show j = 0 ∨ j = 1 ∨ j = 2 ∨ j = 3 ∨ j = 4 by omega) with rfl | rfl | rfl | rfl | rfl <;> rfl
theorem zz_21 : ∀ j, rLo 21 j ≤ 0 ∧ 0 ≤ rHi 21 j := fun j => ⟨(by decide : (-2147483648 : Int) ≤ 0), (by decide : (0 : Int) ≤ 2147483647)⟩
theorem zr_21 : ∀ j, rR 21 j = 0 := fun j => rfl
theorem df_5 : ∀ j, j < 8 → defaultValue (tyX5 j) = (if fT 5 j = 0 then Value.int 0 else if fT 5 j = 1 then .long 0 else .null) := by
  intro j hj
  rcases (show j = 0 ∨ j = 1 ∨ j = 2 ∨ j = 3 ∨ j = 4 ∨ j = 5 ∨ j = 6 ∨ j = 7 by omega) with rfl | rfl | rfl | rfl | rfl | rfl | rfl | rfl <;> rfl
theorem zz_22 : ∀ j, rLo 22 j ≤ 0 ∧ 0 ≤ rHi 22 j := fun j => ⟨(by decide : (-2147483648 : Int) ≤ 0), (by decide : (0 : Int) ≤ 2147483647)⟩
theorem zr_22 : ∀ j, rR 22 j = 0 := fun j => rfl
theorem df_6 : ∀ j, j < 12 → defaultValue (tyX6 j) = (if fT 6 j = 0 then Value.int 0 else if fT 6 j = 1 then .long 0 else .null) := by
  intro j hj
  rcases (show j = 0 ∨ j = 1 ∨ j = 2 ∨ j = 3 ∨ j = 4 ∨ j = 5 ∨ j = 6 ∨ j = 7 ∨ j = 8 ∨ j = 9 ∨ j = 10 ∨ j = 11 by omega) with rfl | rfl | rfl | rfl | rfl | rfl | rfl | rfl | rfl | rfl | rfl | rfl <;> rfl
theorem zz_23 : ∀ j, rLo 23 j ≤ 0 ∧ 0 ≤ rHi 23 j := fun j => ⟨(by decide : (-2147483648 : Int) ≤ 0), (by decide : (0 : Int) ≤ 2147483647)⟩
theorem zr_23 : ∀ j, rR 23 j = 0 := fun j => rfl
theorem df_7 : ∀ j, j < 2 → defaultValue (tyX7 j) = (if fT 7 j = 0 then Value.int 0 else if fT 7 j = 1 then .long 0 else .null) := by
  intro j hj
  rcases (show j = 0 ∨ j = 1 by omega) with rfl | rfl <;> rfl
theorem zz_24 : ∀ j, rLo 24 j ≤ 0 ∧ 0 ≤ rHi 24 j := fun j => ⟨(by decide : (-2147483648 : Int) ≤ 0), (by decide : (0 : Int) ≤ 2147483647)⟩
theorem zr_24 : ∀ j, rR 24 j = 0 := fun j => rfl
theorem df_8 : ∀ j, j < 3 → defaultValue (tyX8 j) = (if fT 8 j = 0 then Value.int 0 else if fT 8 j = 1 then .long 0 else .null) := by
  intro j hj
  rcases (show j = 0 ∨ j = 1 ∨ j = 2 by omega) with rfl | rfl | rfl <;> rfl
theorem zz_25 : ∀ j, rLo 25 j ≤ 0 ∧ 0 ≤ rHi 25 j := fun j => ⟨(by decide : (-2147483648 : Int) ≤ 0), (by decide : (0 : Int) ≤ 2147483647)⟩
theorem zr_25 : ∀ j, rR 25 j = 0 := fun j => rfl
theorem df_9 : ∀ j, j < 7 → defaultValue (tyX9 j) = (if fT 9 j = 0 then Value.int 0 else if fT 9 j = 1 then .long 0 else .null) := by
  intro j hj
  rcases (show j = 0 ∨ j = 1 ∨ j = 2 ∨ j = 3 ∨ j = 4 ∨ j = 5 ∨ j = 6 by omega) with rfl | rfl | rfl | rfl | rfl | rfl | rfl <;> rfl
theorem zz_26 : ∀ j, rLo 26 j ≤ 0 ∧ 0 ≤ rHi 26 j := fun j => ⟨(by decide : (-2147483648 : Int) ≤ 0), (by decide : (0 : Int) ≤ 2147483647)⟩
theorem zr_26 : ∀ j, rR 26 j = 0 := fun j => rfl
theorem df_10 : ∀ j, j < 9 → defaultValue (tyX10 j) = (if fT 10 j = 0 then Value.int 0 else if fT 10 j = 1 then .long 0 else .null) := by
  intro j hj
  rcases (show j = 0 ∨ j = 1 ∨ j = 2 ∨ j = 3 ∨ j = 4 ∨ j = 5 ∨ j = 6 ∨ j = 7 ∨ j = 8 by omega) with rfl | rfl | rfl | rfl | rfl | rfl | rfl | rfl | rfl <;> rfl
theorem zz_27 : ∀ j, rLo 27 j ≤ 0 ∧ 0 ≤ rHi 27 j := fun j => ⟨(by decide : (-2147483648 : Int) ≤ 0), (by decide : (0 : Int) ≤ 2147483647)⟩
theorem zr_27 : ∀ j, rR 27 j = 0 := fun j => rfl
theorem df_11 : ∀ j, j < 56 → defaultValue (tyX11 j) = (if fT 11 j = 0 then Value.int 0 else if fT 11 j = 1 then .long 0 else .null) := by
  intro j hj
  rcases (show j = 0 ∨ j = 1 ∨ j = 2 ∨ j = 3 ∨ j = 4 ∨ j = 5 ∨ j = 6 ∨ j = 7 ∨ j = 8 ∨ j = 9 ∨ j = 10 ∨ j = 11 ∨ j = 12 ∨ j = 13 ∨ j = 14 ∨ j = 15 ∨ j = 16 ∨ j = 17 ∨ j = 18 ∨ j = 19 ∨ j = 20 ∨ j = 21 ∨ j = 22 ∨ j = 23 ∨ j = 24 ∨ j = 25 ∨ j = 26 ∨ j = 27 ∨ j = 28 ∨ j = 29 ∨ j = 30 ∨ j = 31 ∨ j = 32 ∨ j = 33 ∨ j = 34 ∨ j = 35 ∨ j = 36 ∨ j = 37 ∨ j = 38 ∨ j = 39 ∨ j = 40 ∨ j = 41 ∨ j = 42 ∨ j = 43 ∨ j = 44 ∨ j = 45 ∨ j = 46 ∨ j = 47 ∨ j = 48 ∨ j = 49 ∨ j = 50 ∨ j = 51 ∨ j = 52 ∨ j = 53 ∨ j = 54 ∨ j = 55 by omega) with rfl | rfl | rfl | rfl | rfl | rfl | rfl | rfl | rfl | rfl | rfl | rfl | rfl | rfl | rfl | rfl | rfl | rfl | rfl | rfl | rfl | rfl | rfl | rfl | rfl | rfl | rfl | rfl | rfl | rfl | rfl | rfl | rfl | rfl | rfl | rfl | rfl | rfl | rfl | rfl | rfl | rfl | rfl | rfl | rfl | rfl | rfl | rfl | rfl | rfl | rfl | rfl | rfl | rfl | rfl | rfl <;> rfl
set_option maxHeartbeats 4000000 in
set_option maxRecDepth 100000 in
theorem c_X6_init {l : Launch} {D : va_G} {cy : Nat → ClassId} {L0 : List Nat} {C0 : Nat → Nat} {b0 : Nat} {I0 : hI} {J0 : hJ} {R0 : hR} {a0 : Nat} (kk : KK L0 C0 I0 R0 [22, 26]) (ma0 : a0 ∈ L0) (ka0 : C0 a0 = 22) (ria0 : I0 a0 = il []) (rra0 : R0 a0 = rl []) : CA l yX6_init cX6_init 2 3 8 290 D cy L0 C0 b0 [.ref a0] (I0, J0, R0) (fun q => KK q.1 q.2.1 q.2.2.1 q.2.2.2.2 [6, 22, 26, 32, 33, 34, 35, 36, 37, 38, 39] ∧ Old L0 C0 (I0, J0, R0) a0 q.1 q.2.1 q.2.2.1 q.2.2.2.1 q.2.2.2.2 ∧ q.2.1 a0 = 6) := by
  refine CA.mk (plainFor_of_name (by decide)) (Nat.le_of_ble_eq_true rfl) ?_
  intro p e s m args below meth c ls Q hF hin ret hH hl
  obtain ⟨hx, hb, -, hml, hown, hts, -⟩ := hF
  have hl : lv_has ls 2 [(0, .ref a0)] := hl
  have hH : Hp D cy L0 C0 b0 s s.heap I0 J0 R0 s.heap [] := hH
  have old : Old L0 C0 (I0, J0, R0) a0 L0 C0 I0 J0 R0 := Old.rf
  have hS0 := kk.2.2.2.1
  obtain ⟨tFROM, hzFROM, htFROM⟩ := hH.2.2.2.2.2.2.2 ("FROM", [0, 1, 2, 3, 2, 1, 4, 2, 3, 5, 6, 1]) (by simp [ZA4])
  obtain ⟨tTO, hzTO, htTO⟩ := hH.2.2.2.2.2.2.2 ("TO", [1, 2, 3, 2, 1, 0, 0, 4, 5, 3, 1, 6]) (by simp [ZA4])
  obtain ⟨tCOST, hzCOST, htCOST⟩ := hH.2.2.2.2.2.2.2 ("COST", [1, 1, 1, 5, 5, 5, 2, 6, 3, 6, 2, 5]) (by simp [ZA4])
  obtain ⟨tBY, hzBY, htBY⟩ := hH.2.2.2.2.2.2.2 ("BY", [1, 1, 1, 1, 1, 1, 1, 1, 10, 1, 1, 1]) (by simp [ZA4])
  refine lv_aload_n hx hb dX6_init_0 rfl (lv_at hl 0 rfl) ?_
  refine W.objInit hx hb hown (hts _ km_X6_3) (hts _ ki_objectInit) (hts _ kc_objectInit) rfl (by rw [hml]; exact hl.1) rfl dX6_init_1 (Nat.le_of_ble_eq_true rfl) (Nat.le_of_ble_eq_true rfl) ?_
  refine W.eq (g2 := F0 m 4 ls []) rfl ?_
  refine lv_aload_n hx hb dX6_init_4 rfl (lv_at hl 0 rfl) ?_
  refine lv_bipush (v := 32) hx hb dX6_init_5 (by decide) ?_
  refine hNewP (k := 0) (r := 32) (N := 32) (a0 := (32, .inl (fun _ => 0))) hx hb hts hH rfl kac_int rfl rfl rfl (eN_I rfl rfl) (by decide) (by decide) (by decide) (by decide) (by decide) dX6_init_7 (fun q1 L1 C1 I1 J1 R1 H g1 eI1 eJ1 eR1 hH => ?_)
  have nq1 : q1 ∉ L0 := fun h => g1.2.2 (old q1 h).1
  have rra0 : R1 a0 = rl [] := by rw [eR1, va_up_ne _ _ (g1.ne ma0)]; exact rra0
  have ria0 : I1 a0 = il [] := by rw [eI1, va_up_ne _ _ (g1.ne ma0)]; exact ria0
  have ka0 := g1.role ma0 ka0
  have ma0 := g1.mem ma0
  have mq1 := g1.new
  have kq1 := g1.at
  have kk := kk.new g1 eI1 eR1 zz_32 zr_32 (Or.inr rfl) (by decide)
  have old := old.new g1 eI1 eJ1 eR1
  refine pf_6_0 hx hb hts hown hH hin rfl ma0 ka0 rfl kf_X6_11 dX6_init_9 (fun R2 H locs eR2 hH => ?_)
  have rra0 : R2 a0 = rl [(0, q1)] := by rw [eR2]; exact rl_put rra0
  have kk : KK L1 C1 I1 R2 [32, 22, 26] := by rw [eR2]; exact kk.stR ka0 zr_22
  have old : Old L0 C0 (I0, J0, R0) a0 L1 C1 I1 J1 R2 := by rw [eR2]; exact old.stR (Or.inl rfl)
  refine lv_aload_n hx hb dX6_init_12 rfl (lv_at hl 0 rfl) ?_
  refine lv_bipush (v := 32) hx hb dX6_init_13 (by decide) ?_
  refine hNewP (k := 0) (r := 33) (N := 32) (a0 := (32, .inl (fun _ => 0))) hx hb hts hH rfl kac_int rfl rfl rfl (eN_I rfl rfl) (by decide) (by decide) (by decide) (by decide) (by decide) dX6_init_15 (fun q3 L3 C3 I3 J3 R3 H g3 eI3 eJ3 eR3 hH => ?_)
  have nq3 : q3 ∉ L0 := fun h => g3.2.2 (old q3 h).1
  have rra0 : R3 a0 = rl [(0, q1)] := by rw [eR3, va_up_ne _ _ (g3.ne ma0)]; exact rra0
  have ria0 : I3 a0 = il [] := by rw [eI3, va_up_ne _ _ (g3.ne ma0)]; exact ria0
  have ka0 := g3.role ma0 ka0
  have ma0 := g3.mem ma0
  have kq1 := g3.role mq1 kq1
  have mq1 := g3.mem mq1
  have mq3 := g3.new
  have kq3 := g3.at
  have kk := kk.new g3 eI3 eR3 zz_33 zr_33 (Or.inr rfl) (by decide)
  have old := old.new g3 eI3 eJ3 eR3
  refine pf_6_1 hx hb hts hown hH hin rfl ma0 ka0 rfl kf_X6_15 dX6_init_17 (fun R4 H locs eR4 hH => ?_)
  have rra0 : R4 a0 = rl [(1, q3), (0, q1)] := by rw [eR4]; exact rl_put rra0
  have kk : KK L3 C3 I3 R4 [33, 32, 22, 26] := by rw [eR4]; exact kk.stR ka0 zr_22
  have old : Old L0 C0 (I0, J0, R0) a0 L3 C3 I3 J3 R4 := by rw [eR4]; exact old.stR (Or.inl rfl)
  refine lv_aload_n hx hb dX6_init_20 rfl (lv_at hl 0 rfl) ?_
  refine lv_bipush (v := 32) hx hb dX6_init_21 (by decide) ?_
  refine hNewP (k := 0) (r := 34) (N := 32) (a0 := (32, .inl (fun _ => 0))) hx hb hts hH rfl kac_int rfl rfl rfl (eN_I rfl rfl) (by decide) (by decide) (by decide) (by decide) (by decide) dX6_init_23 (fun q5 L5 C5 I5 J5 R5 H g5 eI5 eJ5 eR5 hH => ?_)
  have nq5 : q5 ∉ L0 := fun h => g5.2.2 (old q5 h).1
  have rra0 : R5 a0 = rl [(1, q3), (0, q1)] := by rw [eR5, va_up_ne _ _ (g5.ne ma0)]; exact rra0
  have ria0 : I5 a0 = il [] := by rw [eI5, va_up_ne _ _ (g5.ne ma0)]; exact ria0
  have ka0 := g5.role ma0 ka0
  have ma0 := g5.mem ma0
  have kq1 := g5.role mq1 kq1
  have mq1 := g5.mem mq1
  have kq3 := g5.role mq3 kq3
  have mq3 := g5.mem mq3
  have mq5 := g5.new
  have kq5 := g5.at
  have kk := kk.new g5 eI5 eR5 zz_34 zr_34 (Or.inr rfl) (by decide)
  have old := old.new g5 eI5 eJ5 eR5
  refine pf_6_2 hx hb hts hown hH hin rfl ma0 ka0 rfl kf_X6_18 dX6_init_25 (fun R6 H locs eR6 hH => ?_)
  have rra0 : R6 a0 = rl [(2, q5), (1, q3), (0, q1)] := by rw [eR6]; exact rl_put rra0
  have kk : KK L5 C5 I5 R6 [34, 33, 32, 22, 26] := by rw [eR6]; exact kk.stR ka0 zr_22
  have old : Old L0 C0 (I0, J0, R0) a0 L5 C5 I5 J5 R6 := by rw [eR6]; exact old.stR (Or.inl rfl)
  refine lv_aload_n hx hb dX6_init_28 rfl (lv_at hl 0 rfl) ?_
  refine lv_bipush (v := 32) hx hb dX6_init_29 (by decide) ?_
  refine hNewP (k := 0) (r := 35) (N := 32) (a0 := (32, .inl (fun _ => 0))) hx hb hts hH rfl kac_int rfl rfl rfl (eN_I rfl rfl) (by decide) (by decide) (by decide) (by decide) (by decide) dX6_init_31 (fun q7 L7 C7 I7 J7 R7 H g7 eI7 eJ7 eR7 hH => ?_)
  have nq7 : q7 ∉ L0 := fun h => g7.2.2 (old q7 h).1
  have rra0 : R7 a0 = rl [(2, q5), (1, q3), (0, q1)] := by rw [eR7, va_up_ne _ _ (g7.ne ma0)]; exact rra0
  have ria0 : I7 a0 = il [] := by rw [eI7, va_up_ne _ _ (g7.ne ma0)]; exact ria0
  have ka0 := g7.role ma0 ka0
  have ma0 := g7.mem ma0
  have kq1 := g7.role mq1 kq1
  have mq1 := g7.mem mq1
  have kq3 := g7.role mq3 kq3
  have mq3 := g7.mem mq3
  have kq5 := g7.role mq5 kq5
  have mq5 := g7.mem mq5
  have mq7 := g7.new
  have kq7 := g7.at
  have kk := kk.new g7 eI7 eR7 zz_35 zr_35 (Or.inr rfl) (by decide)
  have old := old.new g7 eI7 eJ7 eR7
  refine pf_6_3 hx hb hts hown hH hin rfl ma0 ka0 rfl kf_X6_21 dX6_init_33 (fun R8 H locs eR8 hH => ?_)
  have rra0 : R8 a0 = rl [(3, q7), (2, q5), (1, q3), (0, q1)] := by rw [eR8]; exact rl_put rra0
  have kk : KK L7 C7 I7 R8 [35, 34, 33, 32, 22, 26] := by rw [eR8]; exact kk.stR ka0 zr_22
  have old : Old L0 C0 (I0, J0, R0) a0 L7 C7 I7 J7 R8 := by rw [eR8]; exact old.stR (Or.inl rfl)
  refine lv_aload_n hx hb dX6_init_36 rfl (lv_at hl 0 rfl) ?_
  refine lv_bipush (v := 32) hx hb dX6_init_37 (by decide) ?_
  refine hNewP (k := 0) (r := 36) (N := 32) (a0 := (32, .inl (fun _ => 0))) hx hb hts hH rfl kac_int rfl rfl rfl (eN_I rfl rfl) (by decide) (by decide) (by decide) (by decide) (by decide) dX6_init_39 (fun q9 L9 C9 I9 J9 R9 H g9 eI9 eJ9 eR9 hH => ?_)
  have nq9 : q9 ∉ L0 := fun h => g9.2.2 (old q9 h).1
  have rra0 : R9 a0 = rl [(3, q7), (2, q5), (1, q3), (0, q1)] := by rw [eR9, va_up_ne _ _ (g9.ne ma0)]; exact rra0
  have ria0 : I9 a0 = il [] := by rw [eI9, va_up_ne _ _ (g9.ne ma0)]; exact ria0
  have ka0 := g9.role ma0 ka0
  have ma0 := g9.mem ma0
  have kq1 := g9.role mq1 kq1
  have mq1 := g9.mem mq1
  have kq3 := g9.role mq3 kq3
  have mq3 := g9.mem mq3
  have kq5 := g9.role mq5 kq5
  have mq5 := g9.mem mq5
  have kq7 := g9.role mq7 kq7
  have mq7 := g9.mem mq7
  have mq9 := g9.new
  have kq9 := g9.at
  have kk := kk.new g9 eI9 eR9 zz_36 zr_36 (Or.inr rfl) (by decide)
  have old := old.new g9 eI9 eJ9 eR9
  refine pf_6_4 hx hb hts hown hH hin rfl ma0 ka0 rfl kf_X6_24 dX6_init_41 (fun R10 H locs eR10 hH => ?_)
  have rra0 : R10 a0 = rl [(4, q9), (3, q7), (2, q5), (1, q3), (0, q1)] := by rw [eR10]; exact rl_put rra0
  have kk : KK L9 C9 I9 R10 [36, 35, 34, 33, 32, 22, 26] := by rw [eR10]; exact kk.stR ka0 zr_22
  have old : Old L0 C0 (I0, J0, R0) a0 L9 C9 I9 J9 R10 := by rw [eR10]; exact old.stR (Or.inl rfl)
  refine lv_aload_n hx hb dX6_init_44 rfl (lv_at hl 0 rfl) ?_
  refine lv_bipush (v := 32) hx hb dX6_init_45 (by decide) ?_
  refine hNewP (k := 2) (r := 37) (N := 32) (a0 := (32, .inl (fun _ => 0))) hx hb hts hH rfl kac_boolean rfl rfl rfl (eN_Z rfl rfl) (by decide) (by decide) (by decide) (by decide) (by decide) dX6_init_47 (fun q11 L11 C11 I11 J11 R11 H g11 eI11 eJ11 eR11 hH => ?_)
  have nq11 : q11 ∉ L0 := fun h => g11.2.2 (old q11 h).1
  have rra0 : R11 a0 = rl [(4, q9), (3, q7), (2, q5), (1, q3), (0, q1)] := by rw [eR11, va_up_ne _ _ (g11.ne ma0)]; exact rra0
  have ria0 : I11 a0 = il [] := by rw [eI11, va_up_ne _ _ (g11.ne ma0)]; exact ria0
  have ka0 := g11.role ma0 ka0
  have ma0 := g11.mem ma0
  have kq1 := g11.role mq1 kq1
  have mq1 := g11.mem mq1
  have kq3 := g11.role mq3 kq3
  have mq3 := g11.mem mq3
  have kq5 := g11.role mq5 kq5
  have mq5 := g11.mem mq5
  have kq7 := g11.role mq7 kq7
  have mq7 := g11.mem mq7
  have kq9 := g11.role mq9 kq9
  have mq9 := g11.mem mq9
  have mq11 := g11.new
  have kq11 := g11.at
  have kk := kk.new g11 eI11 eR11 zz_37 zr_37 (Or.inr rfl) (by decide)
  have old := old.new g11 eI11 eJ11 eR11
  refine pf_6_5 hx hb hts hown hH hin rfl ma0 ka0 rfl kf_X6_27 dX6_init_49 (fun R12 H locs eR12 hH => ?_)
  have rra0 : R12 a0 = rl [(5, q11), (4, q9), (3, q7), (2, q5), (1, q3), (0, q1)] := by rw [eR12]; exact rl_put rra0
  have kk : KK L11 C11 I11 R12 [37, 36, 35, 34, 33, 32, 22, 26] := by rw [eR12]; exact kk.stR ka0 zr_22
  have old : Old L0 C0 (I0, J0, R0) a0 L11 C11 I11 J11 R12 := by rw [eR12]; exact old.stR (Or.inl rfl)
  refine lv_aload_n hx hb dX6_init_52 rfl (lv_at hl 0 rfl) ?_
  refine lv_iconst (v := 0) hx hb dX6_init_53 (by decide) ?_
  refine pf_6_6 hx hb hts hown hH ma0 ka0 rfl kf_X6_31 dX6_init_54 (fun I13 H locs eI13 hH => ?_)
  have ria0 : I13 a0 = il [(6, 0)] := by rw [eI13]; exact il_put ria0
  have kk : KK L11 C11 I13 R12 [37, 36, 35, 34, 33, 32, 22, 26] := by rw [eI13]; exact kk.stI ka0 ⟨by decide, by decide⟩
  have old : Old L0 C0 (I0, J0, R0) a0 L11 C11 I13 J11 R12 := by rw [eI13]; exact old.stI (Or.inl rfl)
  refine lv_aload_n hx hb dX6_init_57 rfl (lv_at hl 0 rfl) ?_
  refine lv_iconst (v := 0) hx hb dX6_init_58 (by decide) ?_
  refine pf_6_7 hx hb hts hown hH ma0 ka0 rfl kf_X6_35 dX6_init_59 (fun I14 H locs eI14 hH => ?_)
  have ria0 : I14 a0 = il [(7, 0), (6, 0)] := by rw [eI14]; exact il_put ria0
  have kk : KK L11 C11 I14 R12 [37, 36, 35, 34, 33, 32, 22, 26] := by rw [eI14]; exact kk.stI ka0 ⟨by decide, by decide⟩
  have old : Old L0 C0 (I0, J0, R0) a0 L11 C11 I14 J11 R12 := by rw [eI14]; exact old.stI (Or.inl rfl)
  refine lv_aload_n hx hb dX6_init_62 rfl (lv_at hl 0 rfl) ?_
  refine lv_bipush (v := 49) hx hb dX6_init_63 (by decide) ?_
  refine hNewP (k := 0) (r := 38) (N := 49) (a0 := (49, .inl (fun _ => 0))) hx hb hts hH rfl kac_int rfl rfl rfl (eN_I rfl rfl) (by decide) (by decide) (by decide) (by decide) (by decide) dX6_init_65 (fun q15 L15 C15 I15 J15 R15 H g15 eI15 eJ15 eR15 hH => ?_)
  have nq15 : q15 ∉ L0 := fun h => g15.2.2 (old q15 h).1
  have rra0 : R15 a0 = rl [(5, q11), (4, q9), (3, q7), (2, q5), (1, q3), (0, q1)] := by rw [eR15, va_up_ne _ _ (g15.ne ma0)]; exact rra0
  have ria0 : I15 a0 = il [(7, 0), (6, 0)] := by rw [eI15, va_up_ne _ _ (g15.ne ma0)]; exact ria0
  have ka0 := g15.role ma0 ka0
  have ma0 := g15.mem ma0
  have kq1 := g15.role mq1 kq1
  have mq1 := g15.mem mq1
  have kq3 := g15.role mq3 kq3
  have mq3 := g15.mem mq3
  have kq5 := g15.role mq5 kq5
  have mq5 := g15.mem mq5
  have kq7 := g15.role mq7 kq7
  have mq7 := g15.mem mq7
  have kq9 := g15.role mq9 kq9
  have mq9 := g15.mem mq9
  have kq11 := g15.role mq11 kq11
  have mq11 := g15.mem mq11
  have mq15 := g15.new
  have kq15 := g15.at
  have kk := kk.new g15 eI15 eR15 zz_38 zr_38 (Or.inr rfl) (by decide)
  have old := old.new g15 eI15 eJ15 eR15
  refine pf_6_8 hx hb hts hown hH hin rfl ma0 ka0 rfl kf_X6_38 dX6_init_67 (fun R16 H locs eR16 hH => ?_)
  have rra0 : R16 a0 = rl [(8, q15), (5, q11), (4, q9), (3, q7), (2, q5), (1, q3), (0, q1)] := by rw [eR16]; exact rl_put rra0
  have kk : KK L15 C15 I15 R16 [38, 37, 36, 35, 34, 33, 32, 22, 26] := by rw [eR16]; exact kk.stR ka0 zr_22
  have old : Old L0 C0 (I0, J0, R0) a0 L15 C15 I15 J15 R16 := by rw [eR16]; exact old.stR (Or.inl rfl)
  refine lv_aload_n hx hb dX6_init_70 rfl (lv_at hl 0 rfl) ?_
  refine lv_bipush (v := 49) hx hb dX6_init_71 (by decide) ?_
  refine hNewP (k := 0) (r := 39) (N := 49) (a0 := (49, .inl (fun _ => 0))) hx hb hts hH rfl kac_int rfl rfl rfl (eN_I rfl rfl) (by decide) (by decide) (by decide) (by decide) (by decide) dX6_init_73 (fun q17 L17 C17 I17 J17 R17 H g17 eI17 eJ17 eR17 hH => ?_)
  have nq17 : q17 ∉ L0 := fun h => g17.2.2 (old q17 h).1
  have rra0 : R17 a0 = rl [(8, q15), (5, q11), (4, q9), (3, q7), (2, q5), (1, q3), (0, q1)] := by rw [eR17, va_up_ne _ _ (g17.ne ma0)]; exact rra0
  have ria0 : I17 a0 = il [(7, 0), (6, 0)] := by rw [eI17, va_up_ne _ _ (g17.ne ma0)]; exact ria0
  have ka0 := g17.role ma0 ka0
  have ma0 := g17.mem ma0
  have kq1 := g17.role mq1 kq1
  have mq1 := g17.mem mq1
  have kq3 := g17.role mq3 kq3
  have mq3 := g17.mem mq3
  have kq5 := g17.role mq5 kq5
  have mq5 := g17.mem mq5
  have kq7 := g17.role mq7 kq7
  have mq7 := g17.mem mq7
  have kq9 := g17.role mq9 kq9
  have mq9 := g17.mem mq9
  have kq11 := g17.role mq11 kq11
  have mq11 := g17.mem mq11
  have kq15 := g17.role mq15 kq15
  have mq15 := g17.mem mq15
  have mq17 := g17.new
  have kq17 := g17.at
  have kk := kk.new g17 eI17 eR17 zz_39 zr_39 (Or.inr rfl) (by decide)
  have old := old.new g17 eI17 eJ17 eR17
  refine pf_6_9 hx hb hts hown hH hin rfl ma0 ka0 rfl kf_X6_41 dX6_init_75 (fun R18 H locs eR18 hH => ?_)
  have rra0 : R18 a0 = rl [(9, q17), (8, q15), (5, q11), (4, q9), (3, q7), (2, q5), (1, q3), (0, q1)] := by rw [eR18]; exact rl_put rra0
  have kk : KK L17 C17 I17 R18 [39, 38, 37, 36, 35, 34, 33, 32, 22, 26] := by rw [eR18]; exact kk.stR ka0 zr_22
  have old : Old L0 C0 (I0, J0, R0) a0 L17 C17 I17 J17 R18 := by rw [eR18]; exact old.stR (Or.inl rfl)
  refine lv_aload_n hx hb dX6_init_78 rfl (lv_at hl 0 rfl) ?_
  refine lv_lconst (v := 0) hx hb dX6_init_79 (by decide) ?_
  refine pf_6_10 hx hb hts hown hH ma0 ka0 rfl kf_X6_44 dX6_init_80 (fun J19 H locs eJ19 hH => ?_)
  have old : Old L0 C0 (I0, J0, R0) a0 L17 C17 I17 J19 R18 := by rw [eJ19]; exact old.stJ (Or.inl rfl)
  refine lv_aload_n hx hb dX6_init_83 rfl (lv_at hl 0 rfl) ?_
  refine lv_iconst (v := (-1)) hx hb dX6_init_84 (by decide) ?_
  refine pf_6_11 hx hb hts hown hH ma0 ka0 rfl kf_X6_48 dX6_init_85 (fun I20 H locs eI20 hH => ?_)
  have ria0 : I20 a0 = il [(11, (-1)), (7, 0), (6, 0)] := by rw [eI20]; exact il_put ria0
  have kk : KK L17 C17 I20 R18 [39, 38, 37, 36, 35, 34, 33, 32, 22, 26] := by rw [eI20]; exact kk.stI ka0 ⟨by decide, by decide⟩
  have old : Old L0 C0 (I0, J0, R0) a0 L17 C17 I20 J19 R18 := by rw [eI20]; exact old.stI (Or.inl rfl)
  have hI21 : ∀ j, j < rN 6 → rLo 6 j ≤ (I20 a0 j).toInt ∧ (I20 a0 j).toInt ≤ rHi 6 j ∧ (rX 6 = true → (I20 a0 j).toInt ≤ 3 ∨ (I20 a0 j).toInt = 9) := by rw [ria0]; decide +kernel
  have hR21 : ∀ j, j < rN 6 → rR 6 j ≠ 0 → ∃ b, b ∈ L17 ∧ b ≠ a0 ∧ R18 a0 j = some b ∧ C17 b + 1 = rR 6 j := by
    intro j hj hn
    rw [rra0]
    have hj : j < 12 := hj
    rcases (show j = 0 ∨ j = 1 ∨ j = 2 ∨ j = 3 ∨ j = 4 ∨ j = 5 ∨ j = 6 ∨ j = 7 ∨ j = 8 ∨ j = 9 ∨ j = 10 ∨ j = 11 by omega) with rfl | rfl | rfl | rfl | rfl | rfl | rfl | rfl | rfl | rfl | rfl | rfl
    · exact ⟨q1, mq1, ne_role kq1 ka0 (by decide), rfl, by rw [kq1]; rfl⟩
    · exact ⟨q3, mq3, ne_role kq3 ka0 (by decide), rfl, by rw [kq3]; rfl⟩
    · exact ⟨q5, mq5, ne_role kq5 ka0 (by decide), rfl, by rw [kq5]; rfl⟩
    · exact ⟨q7, mq7, ne_role kq7 ka0 (by decide), rfl, by rw [kq7]; rfl⟩
    · exact ⟨q9, mq9, ne_role kq9 ka0 (by decide), rfl, by rw [kq9]; rfl⟩
    · exact ⟨q11, mq11, ne_role kq11 ka0 (by decide), rfl, by rw [kq11]; rfl⟩
    · exact absurd rfl hn
    · exact absurd rfl hn
    · exact ⟨q15, mq15, ne_role kq15 ka0 (by decide), rfl, by rw [kq15]; rfl⟩
    · exact ⟨q17, mq17, ne_role kq17 ka0 (by decide), rfl, by rw [kq17]; rfl⟩
    · exact absurd rfl hn
    · exact absurd rfl hn
  have hH := hH.rel (q := a0) (r := 6) (by rw [ka0]; rfl) (by rw [ka0]; rfl)
  have kk := kk.rel ma0 ka0 (Or.inl ⟨by decide, by decide⟩) hI21 hR21 (Or.inr rfl) (fun h => absurd h (by decide)) (by decide) (by decide)
  have old := old.rel (q := a0) (r := 6) (Or.inl rfl)
  obtain ⟨C21, eC21⟩ : ∃ z, z = va_up C17 a0 6 := ⟨_, rfl⟩
  rw [← eC21] at hH kk old
  have kq1 : C21 q1 = 32 := by rw [eC21, va_up_ne _ _ (ne_role kq1 ka0 (by decide))]; exact kq1
  have kq3 : C21 q3 = 33 := by rw [eC21, va_up_ne _ _ (ne_role kq3 ka0 (by decide))]; exact kq3
  have kq5 : C21 q5 = 34 := by rw [eC21, va_up_ne _ _ (ne_role kq5 ka0 (by decide))]; exact kq5
  have kq7 : C21 q7 = 35 := by rw [eC21, va_up_ne _ _ (ne_role kq7 ka0 (by decide))]; exact kq7
  have kq9 : C21 q9 = 36 := by rw [eC21, va_up_ne _ _ (ne_role kq9 ka0 (by decide))]; exact kq9
  have kq11 : C21 q11 = 37 := by rw [eC21, va_up_ne _ _ (ne_role kq11 ka0 (by decide))]; exact kq11
  have kq15 : C21 q15 = 38 := by rw [eC21, va_up_ne _ _ (ne_role kq15 ka0 (by decide))]; exact kq15
  have kq17 : C21 q17 = 39 := by rw [eC21, va_up_ne _ _ (ne_role kq17 ka0 (by decide))]; exact kq17
  have ka0 : C21 a0 = 6 := by rw [eC21, va_up_self]
  have pc6 : (I20 a0 6).toInt = 0 := by rw [ria0]; decide
  refine lv_iconst (v := 0) hx hb dX6_init_88 (by decide) ?_
  refine lv_istore_n (lv' := [(1, .int 0), (0, .ref a0)]) hx hb dX6_init_89 rfl hl (by decide) rfl (fun ls hl => ?_)
  refine lv_iload_n hx hb dX6_init_90 rfl (lv_at hl 0 rfl) ?_
  refine lv_bipush (v := 12) hx hb dX6_init_91 (by decide) ?_
  refine lv_icmp_ge (tgt := 127) hx hb dX6_init_93 (by decide) (fun q => absurd q (by decide)) (fun q => ?_)
  refine lv_aload_n hx hb dX6_init_96 rfl (lv_at hl 1 rfl) ?_
  refine hStat hx hb hts hown hH hzFROM kfs_X6_51 dX6_init_97 ?_
  refine lv_iload_n hx hb dX6_init_100 rfl (lv_at hl 0 rfl) ?_
  refine hStatLd (v := 0) hx hb hH htFROM (Rg_in (Rg_c (x := 0) (a := 0) (b := 0) (by decide)) (by decide)) rfl dX6_init_101 ?_
  refine hStat hx hb hts hown hH hzTO kfs_X6_54 dX6_init_102 ?_
  refine lv_iload_n hx hb dX6_init_105 rfl (lv_at hl 0 rfl) ?_
  refine hStatLd (v := 1) hx hb hH htTO (Rg_in (Rg_c (x := 0) (a := 0) (b := 0) (by decide)) (by decide)) rfl dX6_init_106 ?_
  refine hStat hx hb hts hown hH hzCOST kfs_X6_57 dX6_init_107 ?_
  refine lv_iload_n hx hb dX6_init_110 rfl (lv_at hl 0 rfl) ?_
  refine hStatLd (v := 1) hx hb hH htCOST (Rg_in (Rg_c (x := 0) (a := 0) (b := 0) (by decide)) (by decide)) rfl dX6_init_111 ?_
  refine hStat hx hb hts hown hH hzBY kfs_X6_60 dX6_init_112 ?_
  refine lv_iload_n hx hb dX6_init_115 rfl (lv_at hl 0 rfl) ?_
  refine hStatLd (v := 1) hx hb hH htBY (Rg_in (Rg_c (x := 0) (a := 0) (b := 0) (by decide)) (by decide)) rfl dX6_init_116 ?_
  refine lv_iconst (v := 0) hx hb dX6_init_117 (by decide) ?_
  refine ca_X6_63 hx hb hml hown hts hH (c_X6_keep kk.1 kk.2.1 ma0 ka0 (Rg_c (x := 0) (by decide)) (Rg_c (x := 1) (by decide)) (Rg_c (x := 1) (by decide)) (Rg_c (x := 1) (by decide)) (Rg_c (x := 0) (by decide)) ⟨by rw [pc6]; decide, by rw [pc6]; decide⟩) hl.1 ma0 ka0 rfl (by decide) (Nat.le_of_ble_eq_true rfl) ⟨by decide, by decide⟩ dX6_init_118 (fun I22 J22 R22 H locs hp hH => ?_)
  obtain ⟨⟨oI22, oR22, sc22⟩, eJ22, eR22, -, hx22⟩ := hp
  obtain rfl : J19 = J22 := eJ22.symm
  obtain rfl : R18 = R22 := eR22.symm
  have kk := KK.sm (u := (I20, J19, R18)) (v := (I22, J19, R18)) kk oI22 oR22 sc22 rfl rfl rfl rfl
  have old := old.sm sc22 hS0 rfl
  have pc6 : (I22 a0 6).toInt = 1 := hx22.trans (by rw [pc6]; decide)
  refine lv_iinc (v := 1) (lv' := [(1, .int 1), (0, .ref a0)]) hx hb dX6_init_121 hl (k := 0) rfl (by decide) (by decide) rfl (fun ls hl => ?_)
  refine lv_goto (tgt := 90) hx hb dX6_init_124 (by decide) ?_
  refine lv_iload_n hx hb dX6_init_90 rfl (lv_at hl 0 rfl) ?_
  refine lv_bipush (v := 12) hx hb dX6_init_91 (by decide) ?_
  refine lv_icmp_ge (tgt := 127) hx hb dX6_init_93 (by decide) (fun q => absurd q (by decide)) (fun q => ?_)
  refine lv_aload_n hx hb dX6_init_96 rfl (lv_at hl 1 rfl) ?_
  refine hStat hx hb hts hown hH hzFROM kfs_X6_51 dX6_init_97 ?_
  refine lv_iload_n hx hb dX6_init_100 rfl (lv_at hl 0 rfl) ?_
  refine hStatLd (v := 1) hx hb hH htFROM (Rg_in (Rg_c (x := 1) (a := 1) (b := 1) (by decide)) (by decide)) rfl dX6_init_101 ?_
  refine hStat hx hb hts hown hH hzTO kfs_X6_54 dX6_init_102 ?_
  refine lv_iload_n hx hb dX6_init_105 rfl (lv_at hl 0 rfl) ?_
  refine hStatLd (v := 2) hx hb hH htTO (Rg_in (Rg_c (x := 1) (a := 1) (b := 1) (by decide)) (by decide)) rfl dX6_init_106 ?_
  refine hStat hx hb hts hown hH hzCOST kfs_X6_57 dX6_init_107 ?_
  refine lv_iload_n hx hb dX6_init_110 rfl (lv_at hl 0 rfl) ?_
  refine hStatLd (v := 1) hx hb hH htCOST (Rg_in (Rg_c (x := 1) (a := 1) (b := 1) (by decide)) (by decide)) rfl dX6_init_111 ?_
  refine hStat hx hb hts hown hH hzBY kfs_X6_60 dX6_init_112 ?_
  refine lv_iload_n hx hb dX6_init_115 rfl (lv_at hl 0 rfl) ?_
  refine hStatLd (v := 1) hx hb hH htBY (Rg_in (Rg_c (x := 1) (a := 1) (b := 1) (by decide)) (by decide)) rfl dX6_init_116 ?_
  refine lv_iconst (v := 0) hx hb dX6_init_117 (by decide) ?_
  refine ca_X6_63 hx hb hml hown hts hH (c_X6_keep kk.1 kk.2.1 ma0 ka0 (Rg_c (x := 1) (by decide)) (Rg_c (x := 2) (by decide)) (Rg_c (x := 1) (by decide)) (Rg_c (x := 1) (by decide)) (Rg_c (x := 0) (by decide)) ⟨by rw [pc6]; decide, by rw [pc6]; decide⟩) hl.1 ma0 ka0 rfl (by decide) (Nat.le_of_ble_eq_true rfl) ⟨by decide, by decide⟩ dX6_init_118 (fun I23 J23 R23 H locs hp hH => ?_)
  obtain ⟨⟨oI23, oR23, sc23⟩, eJ23, eR23, -, hx23⟩ := hp
  obtain rfl : J19 = J23 := eJ23.symm
  obtain rfl : R18 = R23 := eR23.symm
  have kk := KK.sm (u := (I22, J19, R18)) (v := (I23, J19, R18)) kk oI23 oR23 sc23 rfl rfl rfl rfl
  have old := old.sm sc23 hS0 rfl
  have pc6 : (I23 a0 6).toInt = 2 := hx23.trans (by rw [pc6]; decide)
  refine lv_iinc (v := 2) (lv' := [(1, .int 2), (0, .ref a0)]) hx hb dX6_init_121 hl (k := 0) rfl (by decide) (by decide) rfl (fun ls hl => ?_)
  refine lv_goto (tgt := 90) hx hb dX6_init_124 (by decide) ?_
  refine lv_iload_n hx hb dX6_init_90 rfl (lv_at hl 0 rfl) ?_
  refine lv_bipush (v := 12) hx hb dX6_init_91 (by decide) ?_
  refine lv_icmp_ge (tgt := 127) hx hb dX6_init_93 (by decide) (fun q => absurd q (by decide)) (fun q => ?_)
  refine lv_aload_n hx hb dX6_init_96 rfl (lv_at hl 1 rfl) ?_
  refine hStat hx hb hts hown hH hzFROM kfs_X6_51 dX6_init_97 ?_
  refine lv_iload_n hx hb dX6_init_100 rfl (lv_at hl 0 rfl) ?_
  refine hStatLd (v := 2) hx hb hH htFROM (Rg_in (Rg_c (x := 2) (a := 2) (b := 2) (by decide)) (by decide)) rfl dX6_init_101 ?_
  refine hStat hx hb hts hown hH hzTO kfs_X6_54 dX6_init_102 ?_
  refine lv_iload_n hx hb dX6_init_105 rfl (lv_at hl 0 rfl) ?_
  refine hStatLd (v := 3) hx hb hH htTO (Rg_in (Rg_c (x := 2) (a := 2) (b := 2) (by decide)) (by decide)) rfl dX6_init_106 ?_
  refine hStat hx hb hts hown hH hzCOST kfs_X6_57 dX6_init_107 ?_
  refine lv_iload_n hx hb dX6_init_110 rfl (lv_at hl 0 rfl) ?_
  refine hStatLd (v := 1) hx hb hH htCOST (Rg_in (Rg_c (x := 2) (a := 2) (b := 2) (by decide)) (by decide)) rfl dX6_init_111 ?_
  refine hStat hx hb hts hown hH hzBY kfs_X6_60 dX6_init_112 ?_
  refine lv_iload_n hx hb dX6_init_115 rfl (lv_at hl 0 rfl) ?_
  refine hStatLd (v := 1) hx hb hH htBY (Rg_in (Rg_c (x := 2) (a := 2) (b := 2) (by decide)) (by decide)) rfl dX6_init_116 ?_
  refine lv_iconst (v := 0) hx hb dX6_init_117 (by decide) ?_
  refine ca_X6_63 hx hb hml hown hts hH (c_X6_keep kk.1 kk.2.1 ma0 ka0 (Rg_c (x := 2) (by decide)) (Rg_c (x := 3) (by decide)) (Rg_c (x := 1) (by decide)) (Rg_c (x := 1) (by decide)) (Rg_c (x := 0) (by decide)) ⟨by rw [pc6]; decide, by rw [pc6]; decide⟩) hl.1 ma0 ka0 rfl (by decide) (Nat.le_of_ble_eq_true rfl) ⟨by decide, by decide⟩ dX6_init_118 (fun I24 J24 R24 H locs hp hH => ?_)
  obtain ⟨⟨oI24, oR24, sc24⟩, eJ24, eR24, -, hx24⟩ := hp
  obtain rfl : J19 = J24 := eJ24.symm
  obtain rfl : R18 = R24 := eR24.symm
  have kk := KK.sm (u := (I23, J19, R18)) (v := (I24, J19, R18)) kk oI24 oR24 sc24 rfl rfl rfl rfl
  have old := old.sm sc24 hS0 rfl
  have pc6 : (I24 a0 6).toInt = 3 := hx24.trans (by rw [pc6]; decide)
  refine lv_iinc (v := 3) (lv' := [(1, .int 3), (0, .ref a0)]) hx hb dX6_init_121 hl (k := 0) rfl (by decide) (by decide) rfl (fun ls hl => ?_)
  refine lv_goto (tgt := 90) hx hb dX6_init_124 (by decide) ?_
  refine lv_iload_n hx hb dX6_init_90 rfl (lv_at hl 0 rfl) ?_
  refine lv_bipush (v := 12) hx hb dX6_init_91 (by decide) ?_
  refine lv_icmp_ge (tgt := 127) hx hb dX6_init_93 (by decide) (fun q => absurd q (by decide)) (fun q => ?_)
  refine lv_aload_n hx hb dX6_init_96 rfl (lv_at hl 1 rfl) ?_
  refine hStat hx hb hts hown hH hzFROM kfs_X6_51 dX6_init_97 ?_
  refine lv_iload_n hx hb dX6_init_100 rfl (lv_at hl 0 rfl) ?_
  refine hStatLd (v := 3) hx hb hH htFROM (Rg_in (Rg_c (x := 3) (a := 3) (b := 3) (by decide)) (by decide)) rfl dX6_init_101 ?_
  refine hStat hx hb hts hown hH hzTO kfs_X6_54 dX6_init_102 ?_
  refine lv_iload_n hx hb dX6_init_105 rfl (lv_at hl 0 rfl) ?_
  refine hStatLd (v := 2) hx hb hH htTO (Rg_in (Rg_c (x := 3) (a := 3) (b := 3) (by decide)) (by decide)) rfl dX6_init_106 ?_
  refine hStat hx hb hts hown hH hzCOST kfs_X6_57 dX6_init_107 ?_
  refine lv_iload_n hx hb dX6_init_110 rfl (lv_at hl 0 rfl) ?_
  refine hStatLd (v := 5) hx hb hH htCOST (Rg_in (Rg_c (x := 3) (a := 3) (b := 3) (by decide)) (by decide)) rfl dX6_init_111 ?_
  refine hStat hx hb hts hown hH hzBY kfs_X6_60 dX6_init_112 ?_
  refine lv_iload_n hx hb dX6_init_115 rfl (lv_at hl 0 rfl) ?_
  refine hStatLd (v := 1) hx hb hH htBY (Rg_in (Rg_c (x := 3) (a := 3) (b := 3) (by decide)) (by decide)) rfl dX6_init_116 ?_
  refine lv_iconst (v := 0) hx hb dX6_init_117 (by decide) ?_
  refine ca_X6_63 hx hb hml hown hts hH (c_X6_keep kk.1 kk.2.1 ma0 ka0 (Rg_c (x := 3) (by decide)) (Rg_c (x := 2) (by decide)) (Rg_c (x := 5) (by decide)) (Rg_c (x := 1) (by decide)) (Rg_c (x := 0) (by decide)) ⟨by rw [pc6]; decide, by rw [pc6]; decide⟩) hl.1 ma0 ka0 rfl (by decide) (Nat.le_of_ble_eq_true rfl) ⟨by decide, by decide⟩ dX6_init_118 (fun I25 J25 R25 H locs hp hH => ?_)
  obtain ⟨⟨oI25, oR25, sc25⟩, eJ25, eR25, -, hx25⟩ := hp
  obtain rfl : J19 = J25 := eJ25.symm
  obtain rfl : R18 = R25 := eR25.symm
  have kk := KK.sm (u := (I24, J19, R18)) (v := (I25, J19, R18)) kk oI25 oR25 sc25 rfl rfl rfl rfl
  have old := old.sm sc25 hS0 rfl
  have pc6 : (I25 a0 6).toInt = 4 := hx25.trans (by rw [pc6]; decide)
  refine lv_iinc (v := 4) (lv' := [(1, .int 4), (0, .ref a0)]) hx hb dX6_init_121 hl (k := 0) rfl (by decide) (by decide) rfl (fun ls hl => ?_)
  refine lv_goto (tgt := 90) hx hb dX6_init_124 (by decide) ?_
  refine lv_iload_n hx hb dX6_init_90 rfl (lv_at hl 0 rfl) ?_
  refine lv_bipush (v := 12) hx hb dX6_init_91 (by decide) ?_
  refine lv_icmp_ge (tgt := 127) hx hb dX6_init_93 (by decide) (fun q => absurd q (by decide)) (fun q => ?_)
  refine lv_aload_n hx hb dX6_init_96 rfl (lv_at hl 1 rfl) ?_
  refine hStat hx hb hts hown hH hzFROM kfs_X6_51 dX6_init_97 ?_
  refine lv_iload_n hx hb dX6_init_100 rfl (lv_at hl 0 rfl) ?_
  refine hStatLd (v := 2) hx hb hH htFROM (Rg_in (Rg_c (x := 4) (a := 4) (b := 4) (by decide)) (by decide)) rfl dX6_init_101 ?_
  refine hStat hx hb hts hown hH hzTO kfs_X6_54 dX6_init_102 ?_
  refine lv_iload_n hx hb dX6_init_105 rfl (lv_at hl 0 rfl) ?_
  refine hStatLd (v := 1) hx hb hH htTO (Rg_in (Rg_c (x := 4) (a := 4) (b := 4) (by decide)) (by decide)) rfl dX6_init_106 ?_
  refine hStat hx hb hts hown hH hzCOST kfs_X6_57 dX6_init_107 ?_
  refine lv_iload_n hx hb dX6_init_110 rfl (lv_at hl 0 rfl) ?_
  refine hStatLd (v := 5) hx hb hH htCOST (Rg_in (Rg_c (x := 4) (a := 4) (b := 4) (by decide)) (by decide)) rfl dX6_init_111 ?_
  refine hStat hx hb hts hown hH hzBY kfs_X6_60 dX6_init_112 ?_
  refine lv_iload_n hx hb dX6_init_115 rfl (lv_at hl 0 rfl) ?_
  refine hStatLd (v := 1) hx hb hH htBY (Rg_in (Rg_c (x := 4) (a := 4) (b := 4) (by decide)) (by decide)) rfl dX6_init_116 ?_
  refine lv_iconst (v := 0) hx hb dX6_init_117 (by decide) ?_
  refine ca_X6_63 hx hb hml hown hts hH (c_X6_keep kk.1 kk.2.1 ma0 ka0 (Rg_c (x := 2) (by decide)) (Rg_c (x := 1) (by decide)) (Rg_c (x := 5) (by decide)) (Rg_c (x := 1) (by decide)) (Rg_c (x := 0) (by decide)) ⟨by rw [pc6]; decide, by rw [pc6]; decide⟩) hl.1 ma0 ka0 rfl (by decide) (Nat.le_of_ble_eq_true rfl) ⟨by decide, by decide⟩ dX6_init_118 (fun I26 J26 R26 H locs hp hH => ?_)
  obtain ⟨⟨oI26, oR26, sc26⟩, eJ26, eR26, -, hx26⟩ := hp
  obtain rfl : J19 = J26 := eJ26.symm
  obtain rfl : R18 = R26 := eR26.symm
  have kk := KK.sm (u := (I25, J19, R18)) (v := (I26, J19, R18)) kk oI26 oR26 sc26 rfl rfl rfl rfl
  have old := old.sm sc26 hS0 rfl
  have pc6 : (I26 a0 6).toInt = 5 := hx26.trans (by rw [pc6]; decide)
  refine lv_iinc (v := 5) (lv' := [(1, .int 5), (0, .ref a0)]) hx hb dX6_init_121 hl (k := 0) rfl (by decide) (by decide) rfl (fun ls hl => ?_)
  refine lv_goto (tgt := 90) hx hb dX6_init_124 (by decide) ?_
  refine lv_iload_n hx hb dX6_init_90 rfl (lv_at hl 0 rfl) ?_
  refine lv_bipush (v := 12) hx hb dX6_init_91 (by decide) ?_
  refine lv_icmp_ge (tgt := 127) hx hb dX6_init_93 (by decide) (fun q => absurd q (by decide)) (fun q => ?_)
  refine lv_aload_n hx hb dX6_init_96 rfl (lv_at hl 1 rfl) ?_
  refine hStat hx hb hts hown hH hzFROM kfs_X6_51 dX6_init_97 ?_
  refine lv_iload_n hx hb dX6_init_100 rfl (lv_at hl 0 rfl) ?_
  refine hStatLd (v := 1) hx hb hH htFROM (Rg_in (Rg_c (x := 5) (a := 5) (b := 5) (by decide)) (by decide)) rfl dX6_init_101 ?_
  refine hStat hx hb hts hown hH hzTO kfs_X6_54 dX6_init_102 ?_
  refine lv_iload_n hx hb dX6_init_105 rfl (lv_at hl 0 rfl) ?_
  refine hStatLd (v := 0) hx hb hH htTO (Rg_in (Rg_c (x := 5) (a := 5) (b := 5) (by decide)) (by decide)) rfl dX6_init_106 ?_
  refine hStat hx hb hts hown hH hzCOST kfs_X6_57 dX6_init_107 ?_
  refine lv_iload_n hx hb dX6_init_110 rfl (lv_at hl 0 rfl) ?_
  refine hStatLd (v := 5) hx hb hH htCOST (Rg_in (Rg_c (x := 5) (a := 5) (b := 5) (by decide)) (by decide)) rfl dX6_init_111 ?_
  refine hStat hx hb hts hown hH hzBY kfs_X6_60 dX6_init_112 ?_
  refine lv_iload_n hx hb dX6_init_115 rfl (lv_at hl 0 rfl) ?_
  refine hStatLd (v := 1) hx hb hH htBY (Rg_in (Rg_c (x := 5) (a := 5) (b := 5) (by decide)) (by decide)) rfl dX6_init_116 ?_
  refine lv_iconst (v := 0) hx hb dX6_init_117 (by decide) ?_
  refine ca_X6_63 hx hb hml hown hts hH (c_X6_keep kk.1 kk.2.1 ma0 ka0 (Rg_c (x := 1) (by decide)) (Rg_c (x := 0) (by decide)) (Rg_c (x := 5) (by decide)) (Rg_c (x := 1) (by decide)) (Rg_c (x := 0) (by decide)) ⟨by rw [pc6]; decide, by rw [pc6]; decide⟩) hl.1 ma0 ka0 rfl (by decide) (Nat.le_of_ble_eq_true rfl) ⟨by decide, by decide⟩ dX6_init_118 (fun I27 J27 R27 H locs hp hH => ?_)
  obtain ⟨⟨oI27, oR27, sc27⟩, eJ27, eR27, -, hx27⟩ := hp
  obtain rfl : J19 = J27 := eJ27.symm
  obtain rfl : R18 = R27 := eR27.symm
  have kk := KK.sm (u := (I26, J19, R18)) (v := (I27, J19, R18)) kk oI27 oR27 sc27 rfl rfl rfl rfl
  have old := old.sm sc27 hS0 rfl
  have pc6 : (I27 a0 6).toInt = 6 := hx27.trans (by rw [pc6]; decide)
  refine lv_iinc (v := 6) (lv' := [(1, .int 6), (0, .ref a0)]) hx hb dX6_init_121 hl (k := 0) rfl (by decide) (by decide) rfl (fun ls hl => ?_)
  refine lv_goto (tgt := 90) hx hb dX6_init_124 (by decide) ?_
  refine lv_iload_n hx hb dX6_init_90 rfl (lv_at hl 0 rfl) ?_
  refine lv_bipush (v := 12) hx hb dX6_init_91 (by decide) ?_
  refine lv_icmp_ge (tgt := 127) hx hb dX6_init_93 (by decide) (fun q => absurd q (by decide)) (fun q => ?_)
  refine lv_aload_n hx hb dX6_init_96 rfl (lv_at hl 1 rfl) ?_
  refine hStat hx hb hts hown hH hzFROM kfs_X6_51 dX6_init_97 ?_
  refine lv_iload_n hx hb dX6_init_100 rfl (lv_at hl 0 rfl) ?_
  refine hStatLd (v := 4) hx hb hH htFROM (Rg_in (Rg_c (x := 6) (a := 6) (b := 6) (by decide)) (by decide)) rfl dX6_init_101 ?_
  refine hStat hx hb hts hown hH hzTO kfs_X6_54 dX6_init_102 ?_
  refine lv_iload_n hx hb dX6_init_105 rfl (lv_at hl 0 rfl) ?_
  refine hStatLd (v := 0) hx hb hH htTO (Rg_in (Rg_c (x := 6) (a := 6) (b := 6) (by decide)) (by decide)) rfl dX6_init_106 ?_
  refine hStat hx hb hts hown hH hzCOST kfs_X6_57 dX6_init_107 ?_
  refine lv_iload_n hx hb dX6_init_110 rfl (lv_at hl 0 rfl) ?_
  refine hStatLd (v := 2) hx hb hH htCOST (Rg_in (Rg_c (x := 6) (a := 6) (b := 6) (by decide)) (by decide)) rfl dX6_init_111 ?_
  refine hStat hx hb hts hown hH hzBY kfs_X6_60 dX6_init_112 ?_
  refine lv_iload_n hx hb dX6_init_115 rfl (lv_at hl 0 rfl) ?_
  refine hStatLd (v := 1) hx hb hH htBY (Rg_in (Rg_c (x := 6) (a := 6) (b := 6) (by decide)) (by decide)) rfl dX6_init_116 ?_
  refine lv_iconst (v := 0) hx hb dX6_init_117 (by decide) ?_
  refine ca_X6_63 hx hb hml hown hts hH (c_X6_keep kk.1 kk.2.1 ma0 ka0 (Rg_c (x := 4) (by decide)) (Rg_c (x := 0) (by decide)) (Rg_c (x := 2) (by decide)) (Rg_c (x := 1) (by decide)) (Rg_c (x := 0) (by decide)) ⟨by rw [pc6]; decide, by rw [pc6]; decide⟩) hl.1 ma0 ka0 rfl (by decide) (Nat.le_of_ble_eq_true rfl) ⟨by decide, by decide⟩ dX6_init_118 (fun I28 J28 R28 H locs hp hH => ?_)
  obtain ⟨⟨oI28, oR28, sc28⟩, eJ28, eR28, -, hx28⟩ := hp
  obtain rfl : J19 = J28 := eJ28.symm
  obtain rfl : R18 = R28 := eR28.symm
  have kk := KK.sm (u := (I27, J19, R18)) (v := (I28, J19, R18)) kk oI28 oR28 sc28 rfl rfl rfl rfl
  have old := old.sm sc28 hS0 rfl
  have pc6 : (I28 a0 6).toInt = 7 := hx28.trans (by rw [pc6]; decide)
  refine lv_iinc (v := 7) (lv' := [(1, .int 7), (0, .ref a0)]) hx hb dX6_init_121 hl (k := 0) rfl (by decide) (by decide) rfl (fun ls hl => ?_)
  refine lv_goto (tgt := 90) hx hb dX6_init_124 (by decide) ?_
  refine lv_iload_n hx hb dX6_init_90 rfl (lv_at hl 0 rfl) ?_
  refine lv_bipush (v := 12) hx hb dX6_init_91 (by decide) ?_
  refine lv_icmp_ge (tgt := 127) hx hb dX6_init_93 (by decide) (fun q => absurd q (by decide)) (fun q => ?_)
  refine lv_aload_n hx hb dX6_init_96 rfl (lv_at hl 1 rfl) ?_
  refine hStat hx hb hts hown hH hzFROM kfs_X6_51 dX6_init_97 ?_
  refine lv_iload_n hx hb dX6_init_100 rfl (lv_at hl 0 rfl) ?_
  refine hStatLd (v := 2) hx hb hH htFROM (Rg_in (Rg_c (x := 7) (a := 7) (b := 7) (by decide)) (by decide)) rfl dX6_init_101 ?_
  refine hStat hx hb hts hown hH hzTO kfs_X6_54 dX6_init_102 ?_
  refine lv_iload_n hx hb dX6_init_105 rfl (lv_at hl 0 rfl) ?_
  refine hStatLd (v := 4) hx hb hH htTO (Rg_in (Rg_c (x := 7) (a := 7) (b := 7) (by decide)) (by decide)) rfl dX6_init_106 ?_
  refine hStat hx hb hts hown hH hzCOST kfs_X6_57 dX6_init_107 ?_
  refine lv_iload_n hx hb dX6_init_110 rfl (lv_at hl 0 rfl) ?_
  refine hStatLd (v := 6) hx hb hH htCOST (Rg_in (Rg_c (x := 7) (a := 7) (b := 7) (by decide)) (by decide)) rfl dX6_init_111 ?_
  refine hStat hx hb hts hown hH hzBY kfs_X6_60 dX6_init_112 ?_
  refine lv_iload_n hx hb dX6_init_115 rfl (lv_at hl 0 rfl) ?_
  refine hStatLd (v := 1) hx hb hH htBY (Rg_in (Rg_c (x := 7) (a := 7) (b := 7) (by decide)) (by decide)) rfl dX6_init_116 ?_
  refine lv_iconst (v := 0) hx hb dX6_init_117 (by decide) ?_
  refine ca_X6_63 hx hb hml hown hts hH (c_X6_keep kk.1 kk.2.1 ma0 ka0 (Rg_c (x := 2) (by decide)) (Rg_c (x := 4) (by decide)) (Rg_c (x := 6) (by decide)) (Rg_c (x := 1) (by decide)) (Rg_c (x := 0) (by decide)) ⟨by rw [pc6]; decide, by rw [pc6]; decide⟩) hl.1 ma0 ka0 rfl (by decide) (Nat.le_of_ble_eq_true rfl) ⟨by decide, by decide⟩ dX6_init_118 (fun I29 J29 R29 H locs hp hH => ?_)
  obtain ⟨⟨oI29, oR29, sc29⟩, eJ29, eR29, -, hx29⟩ := hp
  obtain rfl : J19 = J29 := eJ29.symm
  obtain rfl : R18 = R29 := eR29.symm
  have kk := KK.sm (u := (I28, J19, R18)) (v := (I29, J19, R18)) kk oI29 oR29 sc29 rfl rfl rfl rfl
  have old := old.sm sc29 hS0 rfl
  have pc6 : (I29 a0 6).toInt = 8 := hx29.trans (by rw [pc6]; decide)
  refine lv_iinc (v := 8) (lv' := [(1, .int 8), (0, .ref a0)]) hx hb dX6_init_121 hl (k := 0) rfl (by decide) (by decide) rfl (fun ls hl => ?_)
  refine lv_goto (tgt := 90) hx hb dX6_init_124 (by decide) ?_
  refine lv_iload_n hx hb dX6_init_90 rfl (lv_at hl 0 rfl) ?_
  refine lv_bipush (v := 12) hx hb dX6_init_91 (by decide) ?_
  refine lv_icmp_ge (tgt := 127) hx hb dX6_init_93 (by decide) (fun q => absurd q (by decide)) (fun q => ?_)
  refine lv_aload_n hx hb dX6_init_96 rfl (lv_at hl 1 rfl) ?_
  refine hStat hx hb hts hown hH hzFROM kfs_X6_51 dX6_init_97 ?_
  refine lv_iload_n hx hb dX6_init_100 rfl (lv_at hl 0 rfl) ?_
  refine hStatLd (v := 3) hx hb hH htFROM (Rg_in (Rg_c (x := 8) (a := 8) (b := 8) (by decide)) (by decide)) rfl dX6_init_101 ?_
  refine hStat hx hb hts hown hH hzTO kfs_X6_54 dX6_init_102 ?_
  refine lv_iload_n hx hb dX6_init_105 rfl (lv_at hl 0 rfl) ?_
  refine hStatLd (v := 5) hx hb hH htTO (Rg_in (Rg_c (x := 8) (a := 8) (b := 8) (by decide)) (by decide)) rfl dX6_init_106 ?_
  refine hStat hx hb hts hown hH hzCOST kfs_X6_57 dX6_init_107 ?_
  refine lv_iload_n hx hb dX6_init_110 rfl (lv_at hl 0 rfl) ?_
  refine hStatLd (v := 3) hx hb hH htCOST (Rg_in (Rg_c (x := 8) (a := 8) (b := 8) (by decide)) (by decide)) rfl dX6_init_111 ?_
  refine hStat hx hb hts hown hH hzBY kfs_X6_60 dX6_init_112 ?_
  refine lv_iload_n hx hb dX6_init_115 rfl (lv_at hl 0 rfl) ?_
  refine hStatLd (v := 10) hx hb hH htBY (Rg_in (Rg_c (x := 8) (a := 8) (b := 8) (by decide)) (by decide)) rfl dX6_init_116 ?_
  refine lv_iconst (v := 0) hx hb dX6_init_117 (by decide) ?_
  refine ca_X6_63 hx hb hml hown hts hH (c_X6_keep kk.1 kk.2.1 ma0 ka0 (Rg_c (x := 3) (by decide)) (Rg_c (x := 5) (by decide)) (Rg_c (x := 3) (by decide)) (Rg_c (x := 10) (by decide)) (Rg_c (x := 0) (by decide)) ⟨by rw [pc6]; decide, by rw [pc6]; decide⟩) hl.1 ma0 ka0 rfl (by decide) (Nat.le_of_ble_eq_true rfl) ⟨by decide, by decide⟩ dX6_init_118 (fun I30 J30 R30 H locs hp hH => ?_)
  obtain ⟨⟨oI30, oR30, sc30⟩, eJ30, eR30, -, hx30⟩ := hp
  obtain rfl : J19 = J30 := eJ30.symm
  obtain rfl : R18 = R30 := eR30.symm
  have kk := KK.sm (u := (I29, J19, R18)) (v := (I30, J19, R18)) kk oI30 oR30 sc30 rfl rfl rfl rfl
  have old := old.sm sc30 hS0 rfl
  have pc6 : (I30 a0 6).toInt = 9 := hx30.trans (by rw [pc6]; decide)
  refine lv_iinc (v := 9) (lv' := [(1, .int 9), (0, .ref a0)]) hx hb dX6_init_121 hl (k := 0) rfl (by decide) (by decide) rfl (fun ls hl => ?_)
  refine lv_goto (tgt := 90) hx hb dX6_init_124 (by decide) ?_
  refine lv_iload_n hx hb dX6_init_90 rfl (lv_at hl 0 rfl) ?_
  refine lv_bipush (v := 12) hx hb dX6_init_91 (by decide) ?_
  refine lv_icmp_ge (tgt := 127) hx hb dX6_init_93 (by decide) (fun q => absurd q (by decide)) (fun q => ?_)
  refine lv_aload_n hx hb dX6_init_96 rfl (lv_at hl 1 rfl) ?_
  refine hStat hx hb hts hown hH hzFROM kfs_X6_51 dX6_init_97 ?_
  refine lv_iload_n hx hb dX6_init_100 rfl (lv_at hl 0 rfl) ?_
  refine hStatLd (v := 5) hx hb hH htFROM (Rg_in (Rg_c (x := 9) (a := 9) (b := 9) (by decide)) (by decide)) rfl dX6_init_101 ?_
  refine hStat hx hb hts hown hH hzTO kfs_X6_54 dX6_init_102 ?_
  refine lv_iload_n hx hb dX6_init_105 rfl (lv_at hl 0 rfl) ?_
  refine hStatLd (v := 3) hx hb hH htTO (Rg_in (Rg_c (x := 9) (a := 9) (b := 9) (by decide)) (by decide)) rfl dX6_init_106 ?_
  refine hStat hx hb hts hown hH hzCOST kfs_X6_57 dX6_init_107 ?_
  refine lv_iload_n hx hb dX6_init_110 rfl (lv_at hl 0 rfl) ?_
  refine hStatLd (v := 6) hx hb hH htCOST (Rg_in (Rg_c (x := 9) (a := 9) (b := 9) (by decide)) (by decide)) rfl dX6_init_111 ?_
  refine hStat hx hb hts hown hH hzBY kfs_X6_60 dX6_init_112 ?_
  refine lv_iload_n hx hb dX6_init_115 rfl (lv_at hl 0 rfl) ?_
  refine hStatLd (v := 1) hx hb hH htBY (Rg_in (Rg_c (x := 9) (a := 9) (b := 9) (by decide)) (by decide)) rfl dX6_init_116 ?_
  refine lv_iconst (v := 0) hx hb dX6_init_117 (by decide) ?_
  refine ca_X6_63 hx hb hml hown hts hH (c_X6_keep kk.1 kk.2.1 ma0 ka0 (Rg_c (x := 5) (by decide)) (Rg_c (x := 3) (by decide)) (Rg_c (x := 6) (by decide)) (Rg_c (x := 1) (by decide)) (Rg_c (x := 0) (by decide)) ⟨by rw [pc6]; decide, by rw [pc6]; decide⟩) hl.1 ma0 ka0 rfl (by decide) (Nat.le_of_ble_eq_true rfl) ⟨by decide, by decide⟩ dX6_init_118 (fun I31 J31 R31 H locs hp hH => ?_)
  obtain ⟨⟨oI31, oR31, sc31⟩, eJ31, eR31, -, hx31⟩ := hp
  obtain rfl : J19 = J31 := eJ31.symm
  obtain rfl : R18 = R31 := eR31.symm
  have kk := KK.sm (u := (I30, J19, R18)) (v := (I31, J19, R18)) kk oI31 oR31 sc31 rfl rfl rfl rfl
  have old := old.sm sc31 hS0 rfl
  have pc6 : (I31 a0 6).toInt = 10 := hx31.trans (by rw [pc6]; decide)
  refine lv_iinc (v := 10) (lv' := [(1, .int 10), (0, .ref a0)]) hx hb dX6_init_121 hl (k := 0) rfl (by decide) (by decide) rfl (fun ls hl => ?_)
  refine lv_goto (tgt := 90) hx hb dX6_init_124 (by decide) ?_
  refine lv_iload_n hx hb dX6_init_90 rfl (lv_at hl 0 rfl) ?_
  refine lv_bipush (v := 12) hx hb dX6_init_91 (by decide) ?_
  refine lv_icmp_ge (tgt := 127) hx hb dX6_init_93 (by decide) (fun q => absurd q (by decide)) (fun q => ?_)
  refine lv_aload_n hx hb dX6_init_96 rfl (lv_at hl 1 rfl) ?_
  refine hStat hx hb hts hown hH hzFROM kfs_X6_51 dX6_init_97 ?_
  refine lv_iload_n hx hb dX6_init_100 rfl (lv_at hl 0 rfl) ?_
  refine hStatLd (v := 6) hx hb hH htFROM (Rg_in (Rg_c (x := 10) (a := 10) (b := 10) (by decide)) (by decide)) rfl dX6_init_101 ?_
  refine hStat hx hb hts hown hH hzTO kfs_X6_54 dX6_init_102 ?_
  refine lv_iload_n hx hb dX6_init_105 rfl (lv_at hl 0 rfl) ?_
  refine hStatLd (v := 1) hx hb hH htTO (Rg_in (Rg_c (x := 10) (a := 10) (b := 10) (by decide)) (by decide)) rfl dX6_init_106 ?_
  refine hStat hx hb hts hown hH hzCOST kfs_X6_57 dX6_init_107 ?_
  refine lv_iload_n hx hb dX6_init_110 rfl (lv_at hl 0 rfl) ?_
  refine hStatLd (v := 2) hx hb hH htCOST (Rg_in (Rg_c (x := 10) (a := 10) (b := 10) (by decide)) (by decide)) rfl dX6_init_111 ?_
  refine hStat hx hb hts hown hH hzBY kfs_X6_60 dX6_init_112 ?_
  refine lv_iload_n hx hb dX6_init_115 rfl (lv_at hl 0 rfl) ?_
  refine hStatLd (v := 1) hx hb hH htBY (Rg_in (Rg_c (x := 10) (a := 10) (b := 10) (by decide)) (by decide)) rfl dX6_init_116 ?_
  refine lv_iconst (v := 0) hx hb dX6_init_117 (by decide) ?_
  refine ca_X6_63 hx hb hml hown hts hH (c_X6_keep kk.1 kk.2.1 ma0 ka0 (Rg_c (x := 6) (by decide)) (Rg_c (x := 1) (by decide)) (Rg_c (x := 2) (by decide)) (Rg_c (x := 1) (by decide)) (Rg_c (x := 0) (by decide)) ⟨by rw [pc6]; decide, by rw [pc6]; decide⟩) hl.1 ma0 ka0 rfl (by decide) (Nat.le_of_ble_eq_true rfl) ⟨by decide, by decide⟩ dX6_init_118 (fun I32 J32 R32 H locs hp hH => ?_)
  obtain ⟨⟨oI32, oR32, sc32⟩, eJ32, eR32, -, hx32⟩ := hp
  obtain rfl : J19 = J32 := eJ32.symm
  obtain rfl : R18 = R32 := eR32.symm
  have kk := KK.sm (u := (I31, J19, R18)) (v := (I32, J19, R18)) kk oI32 oR32 sc32 rfl rfl rfl rfl
  have old := old.sm sc32 hS0 rfl
  have pc6 : (I32 a0 6).toInt = 11 := hx32.trans (by rw [pc6]; decide)
  refine lv_iinc (v := 11) (lv' := [(1, .int 11), (0, .ref a0)]) hx hb dX6_init_121 hl (k := 0) rfl (by decide) (by decide) rfl (fun ls hl => ?_)
  refine lv_goto (tgt := 90) hx hb dX6_init_124 (by decide) ?_
  refine lv_iload_n hx hb dX6_init_90 rfl (lv_at hl 0 rfl) ?_
  refine lv_bipush (v := 12) hx hb dX6_init_91 (by decide) ?_
  refine lv_icmp_ge (tgt := 127) hx hb dX6_init_93 (by decide) (fun q => absurd q (by decide)) (fun q => ?_)
  refine lv_aload_n hx hb dX6_init_96 rfl (lv_at hl 1 rfl) ?_
  refine hStat hx hb hts hown hH hzFROM kfs_X6_51 dX6_init_97 ?_
  refine lv_iload_n hx hb dX6_init_100 rfl (lv_at hl 0 rfl) ?_
  refine hStatLd (v := 1) hx hb hH htFROM (Rg_in (Rg_c (x := 11) (a := 11) (b := 11) (by decide)) (by decide)) rfl dX6_init_101 ?_
  refine hStat hx hb hts hown hH hzTO kfs_X6_54 dX6_init_102 ?_
  refine lv_iload_n hx hb dX6_init_105 rfl (lv_at hl 0 rfl) ?_
  refine hStatLd (v := 6) hx hb hH htTO (Rg_in (Rg_c (x := 11) (a := 11) (b := 11) (by decide)) (by decide)) rfl dX6_init_106 ?_
  refine hStat hx hb hts hown hH hzCOST kfs_X6_57 dX6_init_107 ?_
  refine lv_iload_n hx hb dX6_init_110 rfl (lv_at hl 0 rfl) ?_
  refine hStatLd (v := 5) hx hb hH htCOST (Rg_in (Rg_c (x := 11) (a := 11) (b := 11) (by decide)) (by decide)) rfl dX6_init_111 ?_
  refine hStat hx hb hts hown hH hzBY kfs_X6_60 dX6_init_112 ?_
  refine lv_iload_n hx hb dX6_init_115 rfl (lv_at hl 0 rfl) ?_
  refine hStatLd (v := 1) hx hb hH htBY (Rg_in (Rg_c (x := 11) (a := 11) (b := 11) (by decide)) (by decide)) rfl dX6_init_116 ?_
  refine lv_iconst (v := 0) hx hb dX6_init_117 (by decide) ?_
  refine ca_X6_63 hx hb hml hown hts hH (c_X6_keep kk.1 kk.2.1 ma0 ka0 (Rg_c (x := 1) (by decide)) (Rg_c (x := 6) (by decide)) (Rg_c (x := 5) (by decide)) (Rg_c (x := 1) (by decide)) (Rg_c (x := 0) (by decide)) ⟨by rw [pc6]; decide, by rw [pc6]; decide⟩) hl.1 ma0 ka0 rfl (by decide) (Nat.le_of_ble_eq_true rfl) ⟨by decide, by decide⟩ dX6_init_118 (fun I33 J33 R33 H locs hp hH => ?_)
  obtain ⟨⟨oI33, oR33, sc33⟩, eJ33, eR33, -, hx33⟩ := hp
  obtain rfl : J19 = J33 := eJ33.symm
  obtain rfl : R18 = R33 := eR33.symm
  have kk := KK.sm (u := (I32, J19, R18)) (v := (I33, J19, R18)) kk oI33 oR33 sc33 rfl rfl rfl rfl
  have old := old.sm sc33 hS0 rfl
  have pc6 : (I33 a0 6).toInt = 12 := hx33.trans (by rw [pc6]; decide)
  refine lv_iinc (v := 12) (lv' := [(1, .int 12), (0, .ref a0)]) hx hb dX6_init_121 hl (k := 0) rfl (by decide) (by decide) rfl (fun ls hl => ?_)
  refine lv_goto (tgt := 90) hx hb dX6_init_124 (by decide) ?_
  refine lv_iload_n hx hb dX6_init_90 rfl (lv_at hl 0 rfl) ?_
  refine lv_bipush (v := 12) hx hb dX6_init_91 (by decide) ?_
  refine lv_icmp_ge (tgt := 127) hx hb dX6_init_93 (by decide) (fun q => ?_) (fun q => absurd (by decide) q)
  refine lv_aload_n hx hb dX6_init_127 rfl (lv_at hl 1 rfl) ?_
  refine ca_X6_67 hx hb hml hown hts hH (c_X6_measure kk.1 kk.2.1 ma0 ka0) hl.1 ma0 ka0 rfl (by decide) (Nat.le_of_ble_eq_true rfl) ⟨by decide, by decide⟩ dX6_init_128 (fun I34 J34 R34 H locs hp hH => ?_)
  obtain ⟨⟨oI34, oR34, sc34⟩, eJ34, eR34⟩ := hp
  obtain rfl : J19 = J34 := eJ34.symm
  obtain rfl : R18 = R34 := eR34.symm
  have kk := KK.sm (u := (I33, J19, R18)) (v := (I34, J19, R18)) kk oI34 oR34 sc34 rfl rfl rfl rfl
  have old := old.sm sc34 hS0 rfl
  refine W.widen (k := 8) (n := 290) (by decide) (by decide) ?_
  exact ret _ _ _ _ _ _ _ _ _ dX6_init_131 hH ⟨(kk.wS rfl), old, ka0⟩
set_option maxHeartbeats 4000000 in
set_option maxRecDepth 100000 in
theorem c_X0_init {l : Launch} {D : va_G} {cy : Nat → ClassId} {L0 : List Nat} {C0 : Nat → Nat} {b0 : Nat} {I0 : hI} {J0 : hJ} {R0 : hR} {a0 : Nat} (kk : KK L0 C0 I0 R0 [16, 6, 22, 26, 32, 33, 34, 35, 36, 37, 38, 39]) (ma0 : a0 ∈ L0) (ka0 : C0 a0 = 16) (ria0 : I0 a0 = il []) (rra0 : R0 a0 = rl []) : CA l yX0_init cX0_init 1 1 1 30 D cy L0 C0 b0 [.ref a0] (I0, J0, R0) (fun q => KK q.1 q.2.1 q.2.2.1 q.2.2.2.2 [0, 6, 16, 22, 26, 32, 33, 34, 35, 36, 37, 38, 39, 40] ∧ Old L0 C0 (I0, J0, R0) a0 q.1 q.2.1 q.2.2.1 q.2.2.2.1 q.2.2.2.2 ∧ q.2.1 a0 = 0) := by
  refine CA.mk (plainFor_of_name (by decide)) (Nat.le_of_ble_eq_true rfl) ?_
  intro p e s m args below meth c ls Q hF hin ret hH hl
  obtain ⟨hx, hb, -, hml, hown, hts, -⟩ := hF
  have hl : lv_has ls 1 [(0, .ref a0)] := hl
  have hH : Hp D cy L0 C0 b0 s s.heap I0 J0 R0 s.heap [] := hH
  have old : Old L0 C0 (I0, J0, R0) a0 L0 C0 I0 J0 R0 := Old.rf
  have hS0 := kk.2.2.2.1
  refine lv_aload_n hx hb dX0_init_0 rfl (lv_at hl 0 rfl) ?_
  refine W.objInit hx hb hown (hts _ km_X0_3) (hts _ ki_objectInit) (hts _ kc_objectInit) rfl (by rw [hml]; exact hl.1) rfl dX0_init_1 (Nat.le_of_ble_eq_true rfl) (Nat.le_of_ble_eq_true rfl) ?_
  refine W.eq (g2 := F0 m 4 ls []) rfl ?_
  refine lv_aload_n hx hb dX0_init_4 rfl (lv_at hl 0 rfl) ?_
  refine lv_bipush (v := 30) hx hb dX0_init_5 (by decide) ?_
  refine hNewP (k := 0) (r := 40) (N := 30) (a0 := (30, .inl (fun _ => 0))) hx hb hts hH rfl kac_int rfl rfl rfl (eN_I rfl rfl) (by decide) (by decide) (by decide) (by decide) (by decide) dX0_init_7 (fun q1 L1 C1 I1 J1 R1 H g1 eI1 eJ1 eR1 hH => ?_)
  have nq1 : q1 ∉ L0 := fun h => g1.2.2 (old q1 h).1
  have rra0 : R1 a0 = rl [] := by rw [eR1, va_up_ne _ _ (g1.ne ma0)]; exact rra0
  have ria0 : I1 a0 = il [] := by rw [eI1, va_up_ne _ _ (g1.ne ma0)]; exact ria0
  have ka0 := g1.role ma0 ka0
  have ma0 := g1.mem ma0
  have mq1 := g1.new
  have kq1 := g1.at
  have kk := kk.new g1 eI1 eR1 zz_40 zr_40 (Or.inr rfl) (by decide)
  have old := old.new g1 eI1 eJ1 eR1
  refine pf_0_0 hx hb hts hown hH hin rfl ma0 ka0 rfl kf_X0_11 dX0_init_9 (fun R2 H locs eR2 hH => ?_)
  have rra0 : R2 a0 = rl [(0, q1)] := by rw [eR2]; exact rl_put rra0
  have kk : KK L1 C1 I1 R2 [40, 16, 6, 22, 26, 32, 33, 34, 35, 36, 37, 38, 39] := by rw [eR2]; exact kk.stR ka0 zr_16
  have old : Old L0 C0 (I0, J0, R0) a0 L1 C1 I1 J1 R2 := by rw [eR2]; exact old.stR (Or.inl rfl)
  refine lv_aload_n hx hb dX0_init_12 rfl (lv_at hl 0 rfl) ?_
  refine lv_iconst (v := 0) hx hb dX0_init_13 (by decide) ?_
  refine pf_0_1 hx hb hts hown hH ma0 ka0 rfl kf_X0_15 dX0_init_14 (fun I3 H locs eI3 hH => ?_)
  have ria0 : I3 a0 = il [(1, 0)] := by rw [eI3]; exact il_put ria0
  have kk : KK L1 C1 I3 R2 [40, 16, 6, 22, 26, 32, 33, 34, 35, 36, 37, 38, 39] := by rw [eI3]; exact kk.stI ka0 ⟨by decide, by decide⟩
  have old : Old L0 C0 (I0, J0, R0) a0 L1 C1 I3 J1 R2 := by rw [eI3]; exact old.stI (Or.inl rfl)
  have hI4 : ∀ j, j < rN 0 → rLo 0 j ≤ (I3 a0 j).toInt ∧ (I3 a0 j).toInt ≤ rHi 0 j ∧ (rX 0 = true → (I3 a0 j).toInt ≤ 3 ∨ (I3 a0 j).toInt = 9) := by rw [ria0]; decide +kernel
  have hR4 : ∀ j, j < rN 0 → rR 0 j ≠ 0 → ∃ b, b ∈ L1 ∧ b ≠ a0 ∧ R2 a0 j = some b ∧ C1 b + 1 = rR 0 j := by
    intro j hj hn
    rw [rra0]
    have hj : j < 2 := hj
    rcases (show j = 0 ∨ j = 1 by omega) with rfl | rfl
    · exact ⟨q1, mq1, ne_role kq1 ka0 (by decide), rfl, by rw [kq1]; rfl⟩
    · exact absurd rfl hn
  have hH := hH.rel (q := a0) (r := 0) (by rw [ka0]; rfl) (by rw [ka0]; rfl)
  have kk := kk.rel ma0 ka0 (Or.inl ⟨by decide, by decide⟩) hI4 hR4 (Or.inr rfl) (fun h => absurd h (by decide)) (by decide) (by decide)
  have old := old.rel (q := a0) (r := 0) (Or.inl rfl)
  obtain ⟨C4, eC4⟩ : ∃ z, z = va_up C1 a0 0 := ⟨_, rfl⟩
  rw [← eC4] at hH kk old
  have kq1 : C4 q1 = 40 := by rw [eC4, va_up_ne _ _ (ne_role kq1 ka0 (by decide))]; exact kq1
  have ka0 : C4 a0 = 0 := by rw [eC4, va_up_self]
  refine W.widen (k := 1) (n := 30) (by decide) (by decide) ?_
  exact ret _ _ _ _ _ _ _ _ _ dX0_init_17 hH ⟨(kk.wS rfl), old, ka0⟩
set_option maxHeartbeats 4000000 in
set_option maxRecDepth 100000 in
theorem c_X2_init {l : Launch} {D : va_G} {cy : Nat → ClassId} {L0 : List Nat} {C0 : Nat → Nat} {b0 : Nat} {I0 : hI} {J0 : hJ} {R0 : hR} {a0 : Nat} (kk : KK L0 C0 I0 R0 [18, 0, 6, 16, 22, 26, 32, 33, 34, 35, 36, 37, 38, 39, 40]) (ma0 : a0 ∈ L0) (ka0 : C0 a0 = 18) (ria0 : I0 a0 = il []) (rra0 : R0 a0 = rl []) : CA l yX2_init cX2_init 1 1 2 14 D cy L0 C0 b0 [.ref a0] (I0, J0, R0) (fun q => KK q.1 q.2.1 q.2.2.1 q.2.2.2.2 [0, 2, 6, 16, 18, 22, 26, 32, 33, 34, 35, 36, 37, 38, 39, 40, 41, 42] ∧ Old L0 C0 (I0, J0, R0) a0 q.1 q.2.1 q.2.2.1 q.2.2.2.1 q.2.2.2.2 ∧ q.2.1 a0 = 2) := by
  refine CA.mk (plainFor_of_name (by decide)) (Nat.le_of_ble_eq_true rfl) ?_
  intro p e s m args below meth c ls Q hF hin ret hH hl
  obtain ⟨hx, hb, -, hml, hown, hts, -⟩ := hF
  have hl : lv_has ls 1 [(0, .ref a0)] := hl
  have hH : Hp D cy L0 C0 b0 s s.heap I0 J0 R0 s.heap [] := hH
  have old : Old L0 C0 (I0, J0, R0) a0 L0 C0 I0 J0 R0 := Old.rf
  have hS0 := kk.2.2.2.1
  refine lv_aload_n hx hb dX2_init_0 rfl (lv_at hl 0 rfl) ?_
  refine W.objInit hx hb hown (hts _ km_X2_3) (hts _ ki_objectInit) (hts _ kc_objectInit) rfl (by rw [hml]; exact hl.1) rfl dX2_init_1 (Nat.le_of_ble_eq_true rfl) (Nat.le_of_ble_eq_true rfl) ?_
  refine W.eq (g2 := F0 m 4 ls []) rfl ?_
  refine lv_aload_n hx hb dX2_init_4 rfl (lv_at hl 0 rfl) ?_
  refine lv_bipush (v := 7) hx hb dX2_init_5 (by decide) ?_
  refine hNewP (k := 2) (r := 41) (N := 7) (a0 := (7, .inl (fun _ => 0))) hx hb hts hH rfl kac_boolean rfl rfl rfl (eN_Z rfl rfl) (by decide) (by decide) (by decide) (by decide) (by decide) dX2_init_7 (fun q1 L1 C1 I1 J1 R1 H g1 eI1 eJ1 eR1 hH => ?_)
  have nq1 : q1 ∉ L0 := fun h => g1.2.2 (old q1 h).1
  have rra0 : R1 a0 = rl [] := by rw [eR1, va_up_ne _ _ (g1.ne ma0)]; exact rra0
  have ria0 : I1 a0 = il [] := by rw [eI1, va_up_ne _ _ (g1.ne ma0)]; exact ria0
  have ka0 := g1.role ma0 ka0
  have ma0 := g1.mem ma0
  have mq1 := g1.new
  have kq1 := g1.at
  have kk := kk.new g1 eI1 eR1 zz_41 zr_41 (Or.inr rfl) (by decide)
  have old := old.new g1 eI1 eJ1 eR1
  refine pf_2_0 hx hb hts hown hH hin rfl ma0 ka0 rfl kf_X2_9 dX2_init_9 (fun R2 H locs eR2 hH => ?_)
  have rra0 : R2 a0 = rl [(0, q1)] := by rw [eR2]; exact rl_put rra0
  have kk : KK L1 C1 I1 R2 [41, 18, 0, 6, 16, 22, 26, 32, 33, 34, 35, 36, 37, 38, 39, 40] := by rw [eR2]; exact kk.stR ka0 zr_18
  have old : Old L0 C0 (I0, J0, R0) a0 L1 C1 I1 J1 R2 := by rw [eR2]; exact old.stR (Or.inl rfl)
  refine lv_aload_n hx hb dX2_init_12 rfl (lv_at hl 0 rfl) ?_
  refine lv_bipush (v := 7) hx hb dX2_init_13 (by decide) ?_
  refine hNewP (k := 1) (r := 42) (N := 7) (a0 := (7, .inr (.inl (fun _ => 0)))) hx hb hts hH rfl kac_long rfl rfl rfl (eN_J rfl rfl) (by decide) (by decide) (by decide) (by decide) (by decide) dX2_init_15 (fun q3 L3 C3 I3 J3 R3 H g3 eI3 eJ3 eR3 hH => ?_)
  have nq3 : q3 ∉ L0 := fun h => g3.2.2 (old q3 h).1
  have rra0 : R3 a0 = rl [(0, q1)] := by rw [eR3, va_up_ne _ _ (g3.ne ma0)]; exact rra0
  have ria0 : I3 a0 = il [] := by rw [eI3, va_up_ne _ _ (g3.ne ma0)]; exact ria0
  have ka0 := g3.role ma0 ka0
  have ma0 := g3.mem ma0
  have kq1 := g3.role mq1 kq1
  have mq1 := g3.mem mq1
  have mq3 := g3.new
  have kq3 := g3.at
  have kk := kk.new g3 eI3 eR3 zz_42 zr_42 (Or.inr rfl) (by decide)
  have old := old.new g3 eI3 eJ3 eR3
  refine pf_2_1 hx hb hts hown hH hin rfl ma0 ka0 rfl kf_X2_15 dX2_init_17 (fun R4 H locs eR4 hH => ?_)
  have rra0 : R4 a0 = rl [(1, q3), (0, q1)] := by rw [eR4]; exact rl_put rra0
  have kk : KK L3 C3 I3 R4 [42, 41, 18, 0, 6, 16, 22, 26, 32, 33, 34, 35, 36, 37, 38, 39, 40] := by rw [eR4]; exact kk.stR ka0 zr_18
  have old : Old L0 C0 (I0, J0, R0) a0 L3 C3 I3 J3 R4 := by rw [eR4]; exact old.stR (Or.inl rfl)
  have hI5 : ∀ j, j < rN 2 → rLo 2 j ≤ (I3 a0 j).toInt ∧ (I3 a0 j).toInt ≤ rHi 2 j ∧ (rX 2 = true → (I3 a0 j).toInt ≤ 3 ∨ (I3 a0 j).toInt = 9) := by rw [ria0]; decide +kernel
  have hR5 : ∀ j, j < rN 2 → rR 2 j ≠ 0 → ∃ b, b ∈ L3 ∧ b ≠ a0 ∧ R4 a0 j = some b ∧ C3 b + 1 = rR 2 j := by
    intro j hj hn
    rw [rra0]
    have hj : j < 2 := hj
    rcases (show j = 0 ∨ j = 1 by omega) with rfl | rfl
    · exact ⟨q1, mq1, ne_role kq1 ka0 (by decide), rfl, by rw [kq1]; rfl⟩
    · exact ⟨q3, mq3, ne_role kq3 ka0 (by decide), rfl, by rw [kq3]; rfl⟩
  have hH := hH.rel (q := a0) (r := 2) (by rw [ka0]; rfl) (by rw [ka0]; rfl)
  have kk := kk.rel ma0 ka0 (Or.inl ⟨by decide, by decide⟩) hI5 hR5 (Or.inr rfl) (fun h => absurd h (by decide)) (by decide) (by decide)
  have old := old.rel (q := a0) (r := 2) (Or.inl rfl)
  obtain ⟨C5, eC5⟩ : ∃ z, z = va_up C3 a0 2 := ⟨_, rfl⟩
  rw [← eC5] at hH kk old
  have kq1 : C5 q1 = 41 := by rw [eC5, va_up_ne _ _ (ne_role kq1 ka0 (by decide))]; exact kq1
  have kq3 : C5 q3 = 42 := by rw [eC5, va_up_ne _ _ (ne_role kq3 ka0 (by decide))]; exact kq3
  have ka0 : C5 a0 = 2 := by rw [eC5, va_up_self]
  refine W.widen (k := 2) (n := 14) (by decide) (by decide) ?_
  exact ret _ _ _ _ _ _ _ _ _ dX2_init_20 hH ⟨(kk.wS rfl), old, ka0⟩
set_option maxHeartbeats 4000000 in
set_option maxRecDepth 100000 in
theorem c_X3_init {l : Launch} {D : va_G} {cy : Nat → ClassId} {L0 : List Nat} {C0 : Nat → Nat} {b0 : Nat} {I0 : hI} {J0 : hJ} {R0 : hR} {a0 a1 a2 a3 : Nat} (kk : KK L0 C0 I0 R0 [19, 0, 2, 6, 16, 18, 22, 26, 32, 33, 34, 35, 36, 37, 38, 39, 40, 41, 42]) (ma0 : a0 ∈ L0) (ka0 : C0 a0 = 19) (ria0 : I0 a0 = il []) (rra0 : R0 a0 = rl []) (ma1 : a1 ∈ L0) (ka1 : C0 a1 = 6) (ma2 : a2 ∈ L0) (ka2 : C0 a2 = 0) (ma3 : a3 ∈ L0) (ka3 : C0 a3 = 2) : CA l yX3_init cX3_init 4 1 2 8 D cy L0 C0 b0 [.ref a0, .ref a1, .ref a2, .ref a3] (I0, J0, R0) (fun q => KK q.1 q.2.1 q.2.2.1 q.2.2.2.2 [0, 2, 3, 6, 16, 18, 19, 22, 26, 32, 33, 34, 35, 36, 37, 38, 39, 40, 41, 42, 43, 44] ∧ Old L0 C0 (I0, J0, R0) a0 q.1 q.2.1 q.2.2.1 q.2.2.2.1 q.2.2.2.2 ∧ q.2.1 a0 = 3) := by
  refine CA.mk (plainFor_of_name (by decide)) (Nat.le_of_ble_eq_true rfl) ?_
  intro p e s m args below meth c ls Q hF hin ret hH hl
  obtain ⟨hx, hb, -, hml, hown, hts, -⟩ := hF
  have hl : lv_has ls 4 [(0, .ref a0), (1, .ref a1), (2, .ref a2), (3, .ref a3)] := hl
  have hH : Hp D cy L0 C0 b0 s s.heap I0 J0 R0 s.heap [] := hH
  have old : Old L0 C0 (I0, J0, R0) a0 L0 C0 I0 J0 R0 := Old.rf
  have hS0 := kk.2.2.2.1
  refine lv_aload_n hx hb dX3_init_0 rfl (lv_at hl 0 rfl) ?_
  refine W.objInit hx hb hown (hts _ km_X3_3) (hts _ ki_objectInit) (hts _ kc_objectInit) rfl (by rw [hml]; exact hl.1) rfl dX3_init_1 (Nat.le_of_ble_eq_true rfl) (Nat.le_of_ble_eq_true rfl) ?_
  refine W.eq (g2 := F0 m 4 ls []) rfl ?_
  refine lv_aload_n hx hb dX3_init_4 rfl (lv_at hl 0 rfl) ?_
  refine lv_iconst (v := 4) hx hb dX3_init_5 (by decide) ?_
  refine hNewP (k := 0) (r := 43) (N := 4) (a0 := (4, .inl (fun _ => 0))) hx hb hts hH rfl kac_int rfl rfl rfl (eN_I rfl rfl) (by decide) (by decide) (by decide) (by decide) (by decide) dX3_init_6 (fun q1 L1 C1 I1 J1 R1 H g1 eI1 eJ1 eR1 hH => ?_)
  have nq1 : q1 ∉ L0 := fun h => g1.2.2 (old q1 h).1
  have rra0 : R1 a0 = rl [] := by rw [eR1, va_up_ne _ _ (g1.ne ma0)]; exact rra0
  have ria0 : I1 a0 = il [] := by rw [eI1, va_up_ne _ _ (g1.ne ma0)]; exact ria0
  have ka0 := g1.role ma0 ka0
  have ma0 := g1.mem ma0
  have ka1 := g1.role ma1 ka1
  have ma1 := g1.mem ma1
  have ka2 := g1.role ma2 ka2
  have ma2 := g1.mem ma2
  have ka3 := g1.role ma3 ka3
  have ma3 := g1.mem ma3
  have mq1 := g1.new
  have kq1 := g1.at
  have kk := kk.new g1 eI1 eR1 zz_43 zr_43 (Or.inr rfl) (by decide)
  have old := old.new g1 eI1 eJ1 eR1
  refine pf_3_3 hx hb hts hown hH hin rfl ma0 ka0 rfl kf_X3_9 dX3_init_8 (fun R2 H locs eR2 hH => ?_)
  have rra0 : R2 a0 = rl [(3, q1)] := by rw [eR2]; exact rl_put rra0
  have kk : KK L1 C1 I1 R2 [43, 19, 0, 2, 6, 16, 18, 22, 26, 32, 33, 34, 35, 36, 37, 38, 39, 40, 41, 42] := by rw [eR2]; exact kk.stR ka0 zr_19
  have old : Old L0 C0 (I0, J0, R0) a0 L1 C1 I1 J1 R2 := by rw [eR2]; exact old.stR (Or.inl rfl)
  refine lv_aload_n hx hb dX3_init_11 rfl (lv_at hl 0 rfl) ?_
  refine lv_ldc (v := 268435456) hx hb hown (hts _ kk_X3_15) dX3_init_12 ?_
  refine pf_3_4 hx hb hts hown hH ma0 ka0 rfl kf_X3_16 dX3_init_14 (fun I3 H locs eI3 hH => ?_)
  have ria0 : I3 a0 = il [(4, 268435456)] := by rw [eI3]; exact il_put ria0
  have kk : KK L1 C1 I3 R2 [43, 19, 0, 2, 6, 16, 18, 22, 26, 32, 33, 34, 35, 36, 37, 38, 39, 40, 41, 42] := by rw [eI3]; exact kk.stI ka0 ⟨by decide, by decide⟩
  have old : Old L0 C0 (I0, J0, R0) a0 L1 C1 I3 J1 R2 := by rw [eI3]; exact old.stI (Or.inl rfl)
  refine lv_aload_n hx hb dX3_init_17 rfl (lv_at hl 0 rfl) ?_
  refine lv_iconst (v := (-1)) hx hb dX3_init_18 (by decide) ?_
  refine pf_3_5 hx hb hts hown hH ma0 ka0 rfl kf_X3_20 dX3_init_19 (fun I4 H locs eI4 hH => ?_)
  have ria0 : I4 a0 = il [(5, (-1)), (4, 268435456)] := by rw [eI4]; exact il_put ria0
  have kk : KK L1 C1 I4 R2 [43, 19, 0, 2, 6, 16, 18, 22, 26, 32, 33, 34, 35, 36, 37, 38, 39, 40, 41, 42] := by rw [eI4]; exact kk.stI ka0 ⟨by decide, by decide⟩
  have old : Old L0 C0 (I0, J0, R0) a0 L1 C1 I4 J1 R2 := by rw [eI4]; exact old.stI (Or.inl rfl)
  refine lv_aload_n hx hb dX3_init_22 rfl (lv_at hl 0 rfl) ?_
  refine lv_iconst (v := 4) hx hb dX3_init_23 (by decide) ?_
  refine hNewP (k := 0) (r := 44) (N := 4) (a0 := (4, .inl (fun _ => 0))) hx hb hts hH rfl kac_int rfl rfl rfl (eN_I rfl rfl) (by decide) (by decide) (by decide) (by decide) (by decide) dX3_init_24 (fun q5 L5 C5 I5 J5 R5 H g5 eI5 eJ5 eR5 hH => ?_)
  have nq5 : q5 ∉ L0 := fun h => g5.2.2 (old q5 h).1
  have rra0 : R5 a0 = rl [(3, q1)] := by rw [eR5, va_up_ne _ _ (g5.ne ma0)]; exact rra0
  have ria0 : I5 a0 = il [(5, (-1)), (4, 268435456)] := by rw [eI5, va_up_ne _ _ (g5.ne ma0)]; exact ria0
  have ka0 := g5.role ma0 ka0
  have ma0 := g5.mem ma0
  have ka1 := g5.role ma1 ka1
  have ma1 := g5.mem ma1
  have ka2 := g5.role ma2 ka2
  have ma2 := g5.mem ma2
  have ka3 := g5.role ma3 ka3
  have ma3 := g5.mem ma3
  have kq1 := g5.role mq1 kq1
  have mq1 := g5.mem mq1
  have mq5 := g5.new
  have kq5 := g5.at
  have kk := kk.new g5 eI5 eR5 zz_44 zr_44 (Or.inr rfl) (by decide)
  have old := old.new g5 eI5 eJ5 eR5
  refine pf_3_6 hx hb hts hown hH hin rfl ma0 ka0 rfl kf_X3_23 dX3_init_26 (fun R6 H locs eR6 hH => ?_)
  have rra0 : R6 a0 = rl [(6, q5), (3, q1)] := by rw [eR6]; exact rl_put rra0
  have kk : KK L5 C5 I5 R6 [44, 43, 19, 0, 2, 6, 16, 18, 22, 26, 32, 33, 34, 35, 36, 37, 38, 39, 40, 41, 42] := by rw [eR6]; exact kk.stR ka0 zr_19
  have old : Old L0 C0 (I0, J0, R0) a0 L5 C5 I5 J5 R6 := by rw [eR6]; exact old.stR (Or.inl rfl)
  refine lv_aload_n hx hb dX3_init_29 rfl (lv_at hl 0 rfl) ?_
  refine lv_aload_n hx hb dX3_init_30 rfl (lv_at hl 1 rfl) ?_
  refine pf_3_0 hx hb hts hown hH hin rfl ma0 ka0 rfl kf_X3_26 dX3_init_31 (fun R7 H locs eR7 hH => ?_)
  have rra0 : R7 a0 = rl [(0, a1), (6, q5), (3, q1)] := by rw [eR7]; exact rl_put rra0
  have kk : KK L5 C5 I5 R7 [44, 43, 19, 0, 2, 6, 16, 18, 22, 26, 32, 33, 34, 35, 36, 37, 38, 39, 40, 41, 42] := by rw [eR7]; exact kk.stR ka0 zr_19
  have old : Old L0 C0 (I0, J0, R0) a0 L5 C5 I5 J5 R7 := by rw [eR7]; exact old.stR (Or.inl rfl)
  refine lv_aload_n hx hb dX3_init_34 rfl (lv_at hl 0 rfl) ?_
  refine lv_aload_n hx hb dX3_init_35 rfl (lv_at hl 2 rfl) ?_
  refine pf_3_1 hx hb hts hown hH hin rfl ma0 ka0 rfl kf_X3_30 dX3_init_36 (fun R8 H locs eR8 hH => ?_)
  have rra0 : R8 a0 = rl [(1, a2), (0, a1), (6, q5), (3, q1)] := by rw [eR8]; exact rl_put rra0
  have kk : KK L5 C5 I5 R8 [44, 43, 19, 0, 2, 6, 16, 18, 22, 26, 32, 33, 34, 35, 36, 37, 38, 39, 40, 41, 42] := by rw [eR8]; exact kk.stR ka0 zr_19
  have old : Old L0 C0 (I0, J0, R0) a0 L5 C5 I5 J5 R8 := by rw [eR8]; exact old.stR (Or.inl rfl)
  refine lv_aload_n hx hb dX3_init_39 rfl (lv_at hl 0 rfl) ?_
  refine lv_aload_n hx hb dX3_init_40 rfl (lv_at hl 3 rfl) ?_
  refine pf_3_2 hx hb hts hown hH hin rfl ma0 ka0 rfl kf_X3_34 dX3_init_41 (fun R9 H locs eR9 hH => ?_)
  have rra0 : R9 a0 = rl [(2, a3), (1, a2), (0, a1), (6, q5), (3, q1)] := by rw [eR9]; exact rl_put rra0
  have kk : KK L5 C5 I5 R9 [44, 43, 19, 0, 2, 6, 16, 18, 22, 26, 32, 33, 34, 35, 36, 37, 38, 39, 40, 41, 42] := by rw [eR9]; exact kk.stR ka0 zr_19
  have old : Old L0 C0 (I0, J0, R0) a0 L5 C5 I5 J5 R9 := by rw [eR9]; exact old.stR (Or.inl rfl)
  have hI10 : ∀ j, j < rN 3 → rLo 3 j ≤ (I5 a0 j).toInt ∧ (I5 a0 j).toInt ≤ rHi 3 j ∧ (rX 3 = true → (I5 a0 j).toInt ≤ 3 ∨ (I5 a0 j).toInt = 9) := by rw [ria0]; decide +kernel
  have hR10 : ∀ j, j < rN 3 → rR 3 j ≠ 0 → ∃ b, b ∈ L5 ∧ b ≠ a0 ∧ R9 a0 j = some b ∧ C5 b + 1 = rR 3 j := by
    intro j hj hn
    rw [rra0]
    have hj : j < 7 := hj
    rcases (show j = 0 ∨ j = 1 ∨ j = 2 ∨ j = 3 ∨ j = 4 ∨ j = 5 ∨ j = 6 by omega) with rfl | rfl | rfl | rfl | rfl | rfl | rfl
    · exact ⟨a1, ma1, ne_role ka1 ka0 (by decide), rfl, by rw [ka1]; rfl⟩
    · exact ⟨a2, ma2, ne_role ka2 ka0 (by decide), rfl, by rw [ka2]; rfl⟩
    · exact ⟨a3, ma3, ne_role ka3 ka0 (by decide), rfl, by rw [ka3]; rfl⟩
    · exact ⟨q1, mq1, ne_role kq1 ka0 (by decide), rfl, by rw [kq1]; rfl⟩
    · exact absurd rfl hn
    · exact absurd rfl hn
    · exact ⟨q5, mq5, ne_role kq5 ka0 (by decide), rfl, by rw [kq5]; rfl⟩
  have hH := hH.rel (q := a0) (r := 3) (by rw [ka0]; rfl) (by rw [ka0]; rfl)
  have kk := kk.rel ma0 ka0 (Or.inl ⟨by decide, by decide⟩) hI10 hR10 (Or.inr rfl) (fun h => absurd h (by decide)) (by decide) (by decide)
  have old := old.rel (q := a0) (r := 3) (Or.inl rfl)
  obtain ⟨C10, eC10⟩ : ∃ z, z = va_up C5 a0 3 := ⟨_, rfl⟩
  rw [← eC10] at hH kk old
  have ka1 : C10 a1 = 6 := by rw [eC10, va_up_ne _ _ (ne_role ka1 ka0 (by decide))]; exact ka1
  have ka2 : C10 a2 = 0 := by rw [eC10, va_up_ne _ _ (ne_role ka2 ka0 (by decide))]; exact ka2
  have ka3 : C10 a3 = 2 := by rw [eC10, va_up_ne _ _ (ne_role ka3 ka0 (by decide))]; exact ka3
  have kq1 : C10 q1 = 43 := by rw [eC10, va_up_ne _ _ (ne_role kq1 ka0 (by decide))]; exact kq1
  have kq5 : C10 q5 = 44 := by rw [eC10, va_up_ne _ _ (ne_role kq5 ka0 (by decide))]; exact kq5
  have ka0 : C10 a0 = 3 := by rw [eC10, va_up_self]
  refine W.widen (k := 2) (n := 8) (by decide) (by decide) ?_
  exact ret _ _ _ _ _ _ _ _ _ dX3_init_44 hH ⟨(kk.wS rfl), old, ka0⟩
set_option maxHeartbeats 4000000 in
set_option maxRecDepth 100000 in
theorem c_X9_init {l : Launch} {D : va_G} {cy : Nat → ClassId} {L0 : List Nat} {C0 : Nat → Nat} {b0 : Nat} {I0 : hI} {J0 : hJ} {R0 : hR} {a0 a1 a2 : Nat} (kk : KK L0 C0 I0 R0 [25, 60, 0, 2, 3, 6, 16, 18, 19, 22, 26, 32, 33, 34, 35, 36, 37, 38, 39, 40, 41, 42, 43, 44]) (ma0 : a0 ∈ L0) (ka0 : C0 a0 = 25) (ria0 : I0 a0 = il []) (rra0 : R0 a0 = rl []) (ma1 : a1 ∈ L0) (ka1 : C0 a1 = 3) (ma2 : a2 ∈ L0) (ka2 : C0 a2 = 60) : CA l yX9_init cX9_init 3 2 3 120 D cy L0 C0 b0 [.ref a0, .ref a1, .ref a2] (I0, J0, R0) (fun q => KK q.1 q.2.1 q.2.2.1 q.2.2.2.2 [0, 2, 3, 6, 16, 18, 19, 22, 25, 26, 32, 33, 34, 35, 36, 37, 38, 39, 40, 41, 42, 43, 44, 45, 46, 47, 60] ∧ Old L0 C0 (I0, J0, R0) a0 q.1 q.2.1 q.2.2.1 q.2.2.2.1 q.2.2.2.2 ∧ q.2.1 a0 = 25 ∧ ∃ q7 q3 q1 : Nat, q.2.2.2.2 a0 = rl [(1, a2), (0, a1), (6, q7), (3, q3), (2, q1)] ∧ q.2.2.1 a0 = il [(5, 0), (4, 0)] ∧ (q7 ∈ q.1 ∧ q.2.1 q7 = 47) ∧ (q3 ∈ q.1 ∧ q.2.1 q3 = 46) ∧ (q1 ∈ q.1 ∧ q.2.1 q1 = 45)) := by
  refine CA.mk (plainFor_of_name (by decide)) (Nat.le_of_ble_eq_true rfl) ?_
  intro p e s m args below meth c ls Q hF hin ret hH hl
  obtain ⟨hx, hb, -, hml, hown, hts, -⟩ := hF
  have hl : lv_has ls 3 [(0, .ref a0), (1, .ref a1), (2, .ref a2)] := hl
  have hH : Hp D cy L0 C0 b0 s s.heap I0 J0 R0 s.heap [] := hH
  have old : Old L0 C0 (I0, J0, R0) a0 L0 C0 I0 J0 R0 := Old.rf
  have hS0 := kk.2.2.2.1
  refine lv_aload_n hx hb dX9_init_0 rfl (lv_at hl 0 rfl) ?_
  refine W.objInit hx hb hown (hts _ km_X9_3) (hts _ ki_objectInit) (hts _ kc_objectInit) rfl (by rw [hml]; exact hl.1) rfl dX9_init_1 (Nat.le_of_ble_eq_true rfl) (Nat.le_of_ble_eq_true rfl) ?_
  refine W.eq (g2 := F0 m 4 ls []) rfl ?_
  refine lv_aload_n hx hb dX9_init_4 rfl (lv_at hl 0 rfl) ?_
  refine lv_bipush (v := 100) hx hb dX9_init_5 (by decide) ?_
  refine hNewP (k := 0) (r := 45) (N := 100) (a0 := (100, .inl (fun _ => 0))) hx hb hts hH rfl kac_int rfl rfl rfl (eN_I rfl rfl) (by decide) (by decide) (by decide) (by decide) (by decide) dX9_init_7 (fun q1 L1 C1 I1 J1 R1 H g1 eI1 eJ1 eR1 hH => ?_)
  have nq1 : q1 ∉ L0 := fun h => g1.2.2 (old q1 h).1
  have rra0 : R1 a0 = rl [] := by rw [eR1, va_up_ne _ _ (g1.ne ma0)]; exact rra0
  have ria0 : I1 a0 = il [] := by rw [eI1, va_up_ne _ _ (g1.ne ma0)]; exact ria0
  have ka0 := g1.role ma0 ka0
  have ma0 := g1.mem ma0
  have ka1 := g1.role ma1 ka1
  have ma1 := g1.mem ma1
  have ka2 := g1.role ma2 ka2
  have ma2 := g1.mem ma2
  have mq1 := g1.new
  have kq1 := g1.at
  have kk := kk.new g1 eI1 eR1 zz_45 zr_45 (Or.inr rfl) (by decide)
  have old := old.new g1 eI1 eJ1 eR1
  refine pf_9_2 hx hb hts hown hH hin rfl ma0 ka0 rfl kf_X9_9 dX9_init_9 (fun R2 H locs eR2 hH => ?_)
  have rra0 : R2 a0 = rl [(2, q1)] := by rw [eR2]; exact rl_put rra0
  have kk : KK L1 C1 I1 R2 [45, 25, 60, 0, 2, 3, 6, 16, 18, 19, 22, 26, 32, 33, 34, 35, 36, 37, 38, 39, 40, 41, 42, 43, 44] := by rw [eR2]; exact kk.stR ka0 zr_25
  have old : Old L0 C0 (I0, J0, R0) a0 L1 C1 I1 J1 R2 := by rw [eR2]; exact old.stR (Or.inl rfl)
  refine lv_aload_n hx hb dX9_init_12 rfl (lv_at hl 0 rfl) ?_
  refine lv_bipush (v := 10) hx hb dX9_init_13 (by decide) ?_
  refine hNewP (k := 0) (r := 46) (N := 10) (a0 := (10, .inl (fun _ => 0))) hx hb hts hH rfl kac_int rfl rfl rfl (eN_I rfl rfl) (by decide) (by decide) (by decide) (by decide) (by decide) dX9_init_15 (fun q3 L3 C3 I3 J3 R3 H g3 eI3 eJ3 eR3 hH => ?_)
  have nq3 : q3 ∉ L0 := fun h => g3.2.2 (old q3 h).1
  have rra0 : R3 a0 = rl [(2, q1)] := by rw [eR3, va_up_ne _ _ (g3.ne ma0)]; exact rra0
  have ria0 : I3 a0 = il [] := by rw [eI3, va_up_ne _ _ (g3.ne ma0)]; exact ria0
  have ka0 := g3.role ma0 ka0
  have ma0 := g3.mem ma0
  have ka1 := g3.role ma1 ka1
  have ma1 := g3.mem ma1
  have ka2 := g3.role ma2 ka2
  have ma2 := g3.mem ma2
  have kq1 := g3.role mq1 kq1
  have mq1 := g3.mem mq1
  have mq3 := g3.new
  have kq3 := g3.at
  have kk := kk.new g3 eI3 eR3 zz_46 zr_46 (Or.inr rfl) (by decide)
  have old := old.new g3 eI3 eJ3 eR3
  refine pf_9_3 hx hb hts hown hH hin rfl ma0 ka0 rfl kf_X9_15 dX9_init_17 (fun R4 H locs eR4 hH => ?_)
  have rra0 : R4 a0 = rl [(3, q3), (2, q1)] := by rw [eR4]; exact rl_put rra0
  have kk : KK L3 C3 I3 R4 [46, 45, 25, 60, 0, 2, 3, 6, 16, 18, 19, 22, 26, 32, 33, 34, 35, 36, 37, 38, 39, 40, 41, 42, 43, 44] := by rw [eR4]; exact kk.stR ka0 zr_25
  have old : Old L0 C0 (I0, J0, R0) a0 L3 C3 I3 J3 R4 := by rw [eR4]; exact old.stR (Or.inl rfl)
  refine lv_aload_n hx hb dX9_init_20 rfl (lv_at hl 0 rfl) ?_
  refine lv_iconst (v := 0) hx hb dX9_init_21 (by decide) ?_
  refine pf_9_4 hx hb hts hown hH ma0 ka0 rfl kf_X9_18 dX9_init_22 (fun I5 H locs eI5 hH => ?_)
  have ria0 : I5 a0 = il [(4, 0)] := by rw [eI5]; exact il_put ria0
  have kk : KK L3 C3 I5 R4 [46, 45, 25, 60, 0, 2, 3, 6, 16, 18, 19, 22, 26, 32, 33, 34, 35, 36, 37, 38, 39, 40, 41, 42, 43, 44] := by rw [eI5]; exact kk.stI ka0 ⟨by decide, by decide⟩
  have old : Old L0 C0 (I0, J0, R0) a0 L3 C3 I5 J3 R4 := by rw [eI5]; exact old.stI (Or.inl rfl)
  refine lv_aload_n hx hb dX9_init_25 rfl (lv_at hl 0 rfl) ?_
  refine lv_iconst (v := 0) hx hb dX9_init_26 (by decide) ?_
  refine pf_9_5 hx hb hts hown hH ma0 ka0 rfl kf_X9_22 dX9_init_27 (fun I6 H locs eI6 hH => ?_)
  have ria0 : I6 a0 = il [(5, 0), (4, 0)] := by rw [eI6]; exact il_put ria0
  have kk : KK L3 C3 I6 R4 [46, 45, 25, 60, 0, 2, 3, 6, 16, 18, 19, 22, 26, 32, 33, 34, 35, 36, 37, 38, 39, 40, 41, 42, 43, 44] := by rw [eI6]; exact kk.stI ka0 ⟨by decide, by decide⟩
  have old : Old L0 C0 (I0, J0, R0) a0 L3 C3 I6 J3 R4 := by rw [eI6]; exact old.stI (Or.inl rfl)
  refine lv_aload_n hx hb dX9_init_30 rfl (lv_at hl 0 rfl) ?_
  refine lv_bipush (v := 10) hx hb dX9_init_31 (by decide) ?_
  refine hNewP (k := 0) (r := 47) (N := 10) (a0 := (10, .inl (fun _ => 0))) hx hb hts hH rfl kac_int rfl rfl rfl (eN_I rfl rfl) (by decide) (by decide) (by decide) (by decide) (by decide) dX9_init_33 (fun q7 L7 C7 I7 J7 R7 H g7 eI7 eJ7 eR7 hH => ?_)
  have nq7 : q7 ∉ L0 := fun h => g7.2.2 (old q7 h).1
  have rra0 : R7 a0 = rl [(3, q3), (2, q1)] := by rw [eR7, va_up_ne _ _ (g7.ne ma0)]; exact rra0
  have ria0 : I7 a0 = il [(5, 0), (4, 0)] := by rw [eI7, va_up_ne _ _ (g7.ne ma0)]; exact ria0
  have ka0 := g7.role ma0 ka0
  have ma0 := g7.mem ma0
  have ka1 := g7.role ma1 ka1
  have ma1 := g7.mem ma1
  have ka2 := g7.role ma2 ka2
  have ma2 := g7.mem ma2
  have kq1 := g7.role mq1 kq1
  have mq1 := g7.mem mq1
  have kq3 := g7.role mq3 kq3
  have mq3 := g7.mem mq3
  have mq7 := g7.new
  have kq7 := g7.at
  have kk := kk.new g7 eI7 eR7 zz_47 zr_47 (Or.inr rfl) (by decide)
  have old := old.new g7 eI7 eJ7 eR7
  refine pf_9_6 hx hb hts hown hH hin rfl ma0 ka0 rfl kf_X9_25 dX9_init_35 (fun R8 H locs eR8 hH => ?_)
  have rra0 : R8 a0 = rl [(6, q7), (3, q3), (2, q1)] := by rw [eR8]; exact rl_put rra0
  have kk : KK L7 C7 I7 R8 [47, 46, 45, 25, 60, 0, 2, 3, 6, 16, 18, 19, 22, 26, 32, 33, 34, 35, 36, 37, 38, 39, 40, 41, 42, 43, 44] := by rw [eR8]; exact kk.stR ka0 zr_25
  have old : Old L0 C0 (I0, J0, R0) a0 L7 C7 I7 J7 R8 := by rw [eR8]; exact old.stR (Or.inl rfl)
  refine lv_aload_n hx hb dX9_init_38 rfl (lv_at hl 0 rfl) ?_
  refine lv_aload_n hx hb dX9_init_39 rfl (lv_at hl 1 rfl) ?_
  refine pf_9_0 hx hb hts hown hH hin rfl ma0 ka0 rfl kf_X9_28 dX9_init_40 (fun R9 H locs eR9 hH => ?_)
  have rra0 : R9 a0 = rl [(0, a1), (6, q7), (3, q3), (2, q1)] := by rw [eR9]; exact rl_put rra0
  have kk : KK L7 C7 I7 R9 [47, 46, 45, 25, 60, 0, 2, 3, 6, 16, 18, 19, 22, 26, 32, 33, 34, 35, 36, 37, 38, 39, 40, 41, 42, 43, 44] := by rw [eR9]; exact kk.stR ka0 zr_25
  have old : Old L0 C0 (I0, J0, R0) a0 L7 C7 I7 J7 R9 := by rw [eR9]; exact old.stR (Or.inl rfl)
  refine lv_aload_n hx hb dX9_init_43 rfl (lv_at hl 0 rfl) ?_
  refine lv_aload_n hx hb dX9_init_44 rfl (lv_at hl 2 rfl) ?_
  refine pf_9_1 hx hb hts hown hH hin rfl ma0 ka0 rfl kf_X9_32 dX9_init_45 (fun R10 H locs eR10 hH => ?_)
  have rra0 : R10 a0 = rl [(1, a2), (0, a1), (6, q7), (3, q3), (2, q1)] := by rw [eR10]; exact rl_put rra0
  have kk : KK L7 C7 I7 R10 [47, 46, 45, 25, 60, 0, 2, 3, 6, 16, 18, 19, 22, 26, 32, 33, 34, 35, 36, 37, 38, 39, 40, 41, 42, 43, 44] := by rw [eR10]; exact kk.stR ka0 zr_25
  have old : Old L0 C0 (I0, J0, R0) a0 L7 C7 I7 J7 R10 := by rw [eR10]; exact old.stR (Or.inl rfl)
  refine lv_aload_n hx hb dX9_init_48 rfl (lv_at hl 0 rfl) ?_
  refine ca_X9_36 hx hb hml hown hts hH (c_X9_forgetAll_raw kk.1 kk.2.1 ma0 ka0 mq1 (by rw [rra0]; rfl) kq1) hl.1 ma0 ka0 rfl (by decide) (Nat.le_of_ble_eq_true rfl) ⟨by decide, by decide⟩ dX9_init_49 (fun I11 J11 R11 H locs hp hH => ?_)
  obtain ⟨⟨oI11, oR11, sc11⟩, eJ11, eR11⟩ := hp
  obtain rfl : J7 = J11 := eJ11.symm
  obtain rfl : R10 = R11 := eR11.symm
  have kk := KK.sm (u := (I7, J7, R10)) (v := (I11, J7, R10)) kk oI11 oR11 sc11 rfl rfl rfl rfl
  have old := old.sm sc11 hS0 rfl
  have ria0 : I11 a0 = il [(5, 0), (4, 0)] := by rw [← ria0]; exact funext fun j => (sc11 a0 j (nm_role (by rw [ka0]; rfl))).1
  refine W.widen (k := 3) (n := 120) (by decide) (by decide) ?_
  exact ret _ _ _ _ _ _ _ _ _ dX9_init_52 hH ⟨(kk.wS rfl), old, ka0, q7, q3, q1, rra0, ria0, ⟨mq7, kq7⟩, ⟨mq3, kq3⟩, ⟨mq1, kq1⟩⟩
set_option maxHeartbeats 4000000 in
set_option maxRecDepth 100000 in
theorem c_X8_init {l : Launch} {D : va_G} {cy : Nat → ClassId} {L0 : List Nat} {C0 : Nat → Nat} {b0 : Nat} {I0 : hI} {J0 : hJ} {R0 : hR} {a0 : Nat} (kk : KK L0 C0 I0 R0 [24, 0, 2, 3, 6, 16, 18, 19, 22, 25, 26, 32, 33, 34, 35, 36, 37, 38, 39, 40, 41, 42, 43, 44, 45, 46, 47, 60]) (ma0 : a0 ∈ L0) (ka0 : C0 a0 = 24) (ria0 : I0 a0 = il []) (rra0 : R0 a0 = rl []) : CA l yX8_init cX8_init 1 1 2 80 D cy L0 C0 b0 [.ref a0] (I0, J0, R0) (fun q => KK q.1 q.2.1 q.2.2.1 q.2.2.2.2 [0, 2, 3, 6, 8, 16, 18, 19, 22, 24, 25, 26, 32, 33, 34, 35, 36, 37, 38, 39, 40, 41, 42, 43, 44, 45, 46, 47, 48, 49, 60] ∧ Old L0 C0 (I0, J0, R0) a0 q.1 q.2.1 q.2.2.1 q.2.2.2.1 q.2.2.2.2 ∧ q.2.1 a0 = 8) := by
  refine CA.mk (plainFor_of_name (by decide)) (Nat.le_of_ble_eq_true rfl) ?_
  intro p e s m args below meth c ls Q hF hin ret hH hl
  obtain ⟨hx, hb, -, hml, hown, hts, -⟩ := hF
  have hl : lv_has ls 1 [(0, .ref a0)] := hl
  have hH : Hp D cy L0 C0 b0 s s.heap I0 J0 R0 s.heap [] := hH
  have old : Old L0 C0 (I0, J0, R0) a0 L0 C0 I0 J0 R0 := Old.rf
  have hS0 := kk.2.2.2.1
  refine lv_aload_n hx hb dX8_init_0 rfl (lv_at hl 0 rfl) ?_
  refine W.objInit hx hb hown (hts _ km_X8_3) (hts _ ki_objectInit) (hts _ kc_objectInit) rfl (by rw [hml]; exact hl.1) rfl dX8_init_1 (Nat.le_of_ble_eq_true rfl) (Nat.le_of_ble_eq_true rfl) ?_
  refine W.eq (g2 := F0 m 4 ls []) rfl ?_
  refine lv_aload_n hx hb dX8_init_4 rfl (lv_at hl 0 rfl) ?_
  refine lv_bipush (v := 20) hx hb dX8_init_5 (by decide) ?_
  refine hNewP (k := 0) (r := 48) (N := 20) (a0 := (20, .inl (fun _ => 0))) hx hb hts hH rfl kac_int rfl rfl rfl (eN_I rfl rfl) (by decide) (by decide) (by decide) (by decide) (by decide) dX8_init_7 (fun q1 L1 C1 I1 J1 R1 H g1 eI1 eJ1 eR1 hH => ?_)
  have nq1 : q1 ∉ L0 := fun h => g1.2.2 (old q1 h).1
  have rra0 : R1 a0 = rl [] := by rw [eR1, va_up_ne _ _ (g1.ne ma0)]; exact rra0
  have ria0 : I1 a0 = il [] := by rw [eI1, va_up_ne _ _ (g1.ne ma0)]; exact ria0
  have ka0 := g1.role ma0 ka0
  have ma0 := g1.mem ma0
  have mq1 := g1.new
  have kq1 := g1.at
  have kk := kk.new g1 eI1 eR1 zz_48 zr_48 (Or.inr rfl) (by decide)
  have old := old.new g1 eI1 eJ1 eR1
  refine pf_8_0 hx hb hts hown hH hin rfl ma0 ka0 rfl kf_X8_9 dX8_init_9 (fun R2 H locs eR2 hH => ?_)
  have rra0 : R2 a0 = rl [(0, q1)] := by rw [eR2]; exact rl_put rra0
  have kk : KK L1 C1 I1 R2 [48, 24, 0, 2, 3, 6, 16, 18, 19, 22, 25, 26, 32, 33, 34, 35, 36, 37, 38, 39, 40, 41, 42, 43, 44, 45, 46, 47, 60] := by rw [eR2]; exact kk.stR ka0 zr_24
  have old : Old L0 C0 (I0, J0, R0) a0 L1 C1 I1 J1 R2 := by rw [eR2]; exact old.stR (Or.inl rfl)
  refine lv_aload_n hx hb dX8_init_12 rfl (lv_at hl 0 rfl) ?_
  refine lv_bipush (v := 60) hx hb dX8_init_13 (by decide) ?_
  refine hNewP (k := 1) (r := 49) (N := 60) (a0 := (60, .inr (.inl (fun _ => 0)))) hx hb hts hH rfl kac_long rfl rfl rfl (eN_J rfl rfl) (by decide) (by decide) (by decide) (by decide) (by decide) dX8_init_15 (fun q3 L3 C3 I3 J3 R3 H g3 eI3 eJ3 eR3 hH => ?_)
  have nq3 : q3 ∉ L0 := fun h => g3.2.2 (old q3 h).1
  have rra0 : R3 a0 = rl [(0, q1)] := by rw [eR3, va_up_ne _ _ (g3.ne ma0)]; exact rra0
  have ria0 : I3 a0 = il [] := by rw [eI3, va_up_ne _ _ (g3.ne ma0)]; exact ria0
  have ka0 := g3.role ma0 ka0
  have ma0 := g3.mem ma0
  have kq1 := g3.role mq1 kq1
  have mq1 := g3.mem mq1
  have mq3 := g3.new
  have kq3 := g3.at
  have kk := kk.new g3 eI3 eR3 zz_49 zr_49 (Or.inr rfl) (by decide)
  have old := old.new g3 eI3 eJ3 eR3
  refine pf_8_1 hx hb hts hown hH hin rfl ma0 ka0 rfl kf_X8_15 dX8_init_17 (fun R4 H locs eR4 hH => ?_)
  have rra0 : R4 a0 = rl [(1, q3), (0, q1)] := by rw [eR4]; exact rl_put rra0
  have kk : KK L3 C3 I3 R4 [49, 48, 24, 0, 2, 3, 6, 16, 18, 19, 22, 25, 26, 32, 33, 34, 35, 36, 37, 38, 39, 40, 41, 42, 43, 44, 45, 46, 47, 60] := by rw [eR4]; exact kk.stR ka0 zr_24
  have old : Old L0 C0 (I0, J0, R0) a0 L3 C3 I3 J3 R4 := by rw [eR4]; exact old.stR (Or.inl rfl)
  refine lv_aload_n hx hb dX8_init_20 rfl (lv_at hl 0 rfl) ?_
  refine lv_iconst (v := 0) hx hb dX8_init_21 (by decide) ?_
  refine pf_8_2 hx hb hts hown hH ma0 ka0 rfl kf_X8_19 dX8_init_22 (fun I5 H locs eI5 hH => ?_)
  have ria0 : I5 a0 = il [(2, 0)] := by rw [eI5]; exact il_put ria0
  have kk : KK L3 C3 I5 R4 [49, 48, 24, 0, 2, 3, 6, 16, 18, 19, 22, 25, 26, 32, 33, 34, 35, 36, 37, 38, 39, 40, 41, 42, 43, 44, 45, 46, 47, 60] := by rw [eI5]; exact kk.stI ka0 ⟨by decide, by decide⟩
  have old : Old L0 C0 (I0, J0, R0) a0 L3 C3 I5 J3 R4 := by rw [eI5]; exact old.stI (Or.inl rfl)
  have hI6 : ∀ j, j < rN 8 → rLo 8 j ≤ (I5 a0 j).toInt ∧ (I5 a0 j).toInt ≤ rHi 8 j ∧ (rX 8 = true → (I5 a0 j).toInt ≤ 3 ∨ (I5 a0 j).toInt = 9) := by rw [ria0]; decide +kernel
  have hR6 : ∀ j, j < rN 8 → rR 8 j ≠ 0 → ∃ b, b ∈ L3 ∧ b ≠ a0 ∧ R4 a0 j = some b ∧ C3 b + 1 = rR 8 j := by
    intro j hj hn
    rw [rra0]
    have hj : j < 3 := hj
    rcases (show j = 0 ∨ j = 1 ∨ j = 2 by omega) with rfl | rfl | rfl
    · exact ⟨q1, mq1, ne_role kq1 ka0 (by decide), rfl, by rw [kq1]; rfl⟩
    · exact ⟨q3, mq3, ne_role kq3 ka0 (by decide), rfl, by rw [kq3]; rfl⟩
    · exact absurd rfl hn
  have hH := hH.rel (q := a0) (r := 8) (by rw [ka0]; rfl) (by rw [ka0]; rfl)
  have kk := kk.rel ma0 ka0 (Or.inl ⟨by decide, by decide⟩) hI6 hR6 (Or.inr rfl) (fun h => absurd h (by decide)) (by decide) (by decide)
  have old := old.rel (q := a0) (r := 8) (Or.inl rfl)
  obtain ⟨C6, eC6⟩ : ∃ z, z = va_up C3 a0 8 := ⟨_, rfl⟩
  rw [← eC6] at hH kk old
  have kq1 : C6 q1 = 48 := by rw [eC6, va_up_ne _ _ (ne_role kq1 ka0 (by decide))]; exact kq1
  have kq3 : C6 q3 = 49 := by rw [eC6, va_up_ne _ _ (ne_role kq3 ka0 (by decide))]; exact kq3
  have ka0 : C6 a0 = 8 := by rw [eC6, va_up_self]
  refine W.widen (k := 2) (n := 80) (by decide) (by decide) ?_
  exact ret _ _ _ _ _ _ _ _ _ dX8_init_25 hH ⟨(kk.wS rfl), old, ka0⟩
set_option maxHeartbeats 4000000 in
set_option maxRecDepth 100000 in
theorem c_X4_init {l : Launch} {D : va_G} {cy : Nat → ClassId} {L0 : List Nat} {C0 : Nat → Nat} {b0 : Nat} {I0 : hI} {J0 : hJ} {R0 : hR} {a0 : Nat} (kk : KK L0 C0 I0 R0 [20, 0, 2, 3, 6, 8, 16, 18, 19, 22, 24, 25, 26, 32, 33, 34, 35, 36, 37, 38, 39, 40, 41, 42, 43, 44, 45, 46, 47, 48, 49, 60]) (ma0 : a0 ∈ L0) (ka0 : C0 a0 = 20) (ria0 : I0 a0 = il []) (rra0 : R0 a0 = rl []) : CA l yX4_init cX4_init 1 1 0 0 D cy L0 C0 b0 [.ref a0] (I0, J0, R0) (fun q => KK q.1 q.2.1 q.2.2.1 q.2.2.2.2 [0, 2, 3, 4, 6, 8, 16, 18, 19, 20, 22, 24, 25, 26, 32, 33, 34, 35, 36, 37, 38, 39, 40, 41, 42, 43, 44, 45, 46, 47, 48, 49, 60] ∧ Old L0 C0 (I0, J0, R0) a0 q.1 q.2.1 q.2.2.1 q.2.2.2.1 q.2.2.2.2 ∧ q.2.1 a0 = 4) := by
  refine CA.mk (plainFor_of_name (by decide)) (Nat.le_of_ble_eq_true rfl) ?_
  intro p e s m args below meth c ls Q hF hin ret hH hl
  obtain ⟨hx, hb, -, hml, hown, hts, -⟩ := hF
  have hl : lv_has ls 1 [(0, .ref a0)] := hl
  have hH : Hp D cy L0 C0 b0 s s.heap I0 J0 R0 s.heap [] := hH
  have old : Old L0 C0 (I0, J0, R0) a0 L0 C0 I0 J0 R0 := Old.rf
  have hS0 := kk.2.2.2.1
  refine lv_aload_n hx hb dX4_init_0 rfl (lv_at hl 0 rfl) ?_
  refine W.objInit hx hb hown (hts _ km_X4_3) (hts _ ki_objectInit) (hts _ kc_objectInit) rfl (by rw [hml]; exact hl.1) rfl dX4_init_1 (Nat.le_of_ble_eq_true rfl) (Nat.le_of_ble_eq_true rfl) ?_
  refine W.eq (g2 := F0 m 4 ls []) rfl ?_
  refine lv_aload_n hx hb dX4_init_4 rfl (lv_at hl 0 rfl) ?_
  refine lv_lconst (v := 0) hx hb dX4_init_5 (by decide) ?_
  refine pf_4_0 hx hb hts hown hH ma0 ka0 rfl kf_X4_9 dX4_init_6 (fun J1 H locs eJ1 hH => ?_)
  have old : Old L0 C0 (I0, J0, R0) a0 L0 C0 I0 J1 R0 := by rw [eJ1]; exact old.stJ (Or.inl rfl)
  refine lv_aload_n hx hb dX4_init_9 rfl (lv_at hl 0 rfl) ?_
  refine lv_iconst (v := (-1)) hx hb dX4_init_10 (by decide) ?_
  refine pf_4_1 hx hb hts hown hH ma0 ka0 rfl kf_X4_15 dX4_init_11 (fun I2 H locs eI2 hH => ?_)
  have ria0 : I2 a0 = il [(1, (-1))] := by rw [eI2]; exact il_put ria0
  have kk : KK L0 C0 I2 R0 [20, 0, 2, 3, 6, 8, 16, 18, 19, 22, 24, 25, 26, 32, 33, 34, 35, 36, 37, 38, 39, 40, 41, 42, 43, 44, 45, 46, 47, 48, 49, 60] := by rw [eI2]; exact kk.stI ka0 ⟨by decide, by decide⟩
  have old : Old L0 C0 (I0, J0, R0) a0 L0 C0 I2 J1 R0 := by rw [eI2]; exact old.stI (Or.inl rfl)
  refine lv_aload_n hx hb dX4_init_14 rfl (lv_at hl 0 rfl) ?_
  refine lv_iconst (v := (-1)) hx hb dX4_init_15 (by decide) ?_
  refine pf_4_2 hx hb hts hown hH ma0 ka0 rfl kf_X4_19 dX4_init_16 (fun I3 H locs eI3 hH => ?_)
  have ria0 : I3 a0 = il [(2, (-1)), (1, (-1))] := by rw [eI3]; exact il_put ria0
  have kk : KK L0 C0 I3 R0 [20, 0, 2, 3, 6, 8, 16, 18, 19, 22, 24, 25, 26, 32, 33, 34, 35, 36, 37, 38, 39, 40, 41, 42, 43, 44, 45, 46, 47, 48, 49, 60] := by rw [eI3]; exact kk.stI ka0 ⟨by decide, by decide⟩
  have old : Old L0 C0 (I0, J0, R0) a0 L0 C0 I3 J1 R0 := by rw [eI3]; exact old.stI (Or.inl rfl)
  refine lv_aload_n hx hb dX4_init_19 rfl (lv_at hl 0 rfl) ?_
  refine lv_iconst (v := 0) hx hb dX4_init_20 (by decide) ?_
  refine pf_4_3 hx hb hts hown hH ma0 ka0 rfl kf_X4_22 dX4_init_21 (fun I4 H locs eI4 hH => ?_)
  have ria0 : I4 a0 = il [(3, 0), (2, (-1)), (1, (-1))] := by rw [eI4]; exact il_put ria0
  have kk : KK L0 C0 I4 R0 [20, 0, 2, 3, 6, 8, 16, 18, 19, 22, 24, 25, 26, 32, 33, 34, 35, 36, 37, 38, 39, 40, 41, 42, 43, 44, 45, 46, 47, 48, 49, 60] := by rw [eI4]; exact kk.stI ka0 ⟨by decide, by decide⟩
  have old : Old L0 C0 (I0, J0, R0) a0 L0 C0 I4 J1 R0 := by rw [eI4]; exact old.stI (Or.inl rfl)
  refine lv_aload_n hx hb dX4_init_24 rfl (lv_at hl 0 rfl) ?_
  refine lv_iconst (v := 0) hx hb dX4_init_25 (by decide) ?_
  refine pf_4_4 hx hb hts hown hH ma0 ka0 rfl kf_X4_25 dX4_init_26 (fun I5 H locs eI5 hH => ?_)
  have ria0 : I5 a0 = il [(4, 0), (3, 0), (2, (-1)), (1, (-1))] := by rw [eI5]; exact il_put ria0
  have kk : KK L0 C0 I5 R0 [20, 0, 2, 3, 6, 8, 16, 18, 19, 22, 24, 25, 26, 32, 33, 34, 35, 36, 37, 38, 39, 40, 41, 42, 43, 44, 45, 46, 47, 48, 49, 60] := by rw [eI5]; exact kk.stI ka0 ⟨by decide, by decide⟩
  have old : Old L0 C0 (I0, J0, R0) a0 L0 C0 I5 J1 R0 := by rw [eI5]; exact old.stI (Or.inl rfl)
  have hI6 : ∀ j, j < rN 4 → rLo 4 j ≤ (I5 a0 j).toInt ∧ (I5 a0 j).toInt ≤ rHi 4 j ∧ (rX 4 = true → (I5 a0 j).toInt ≤ 3 ∨ (I5 a0 j).toInt = 9) := by rw [ria0]; decide +kernel
  have hR6 : ∀ j, j < rN 4 → rR 4 j ≠ 0 → ∃ b, b ∈ L0 ∧ b ≠ a0 ∧ R0 a0 j = some b ∧ C0 b + 1 = rR 4 j := by
    intro j hj hn
    rw [rra0]
    have hj : j < 5 := hj
    rcases (show j = 0 ∨ j = 1 ∨ j = 2 ∨ j = 3 ∨ j = 4 by omega) with rfl | rfl | rfl | rfl | rfl
    · exact absurd rfl hn
    · exact absurd rfl hn
    · exact absurd rfl hn
    · exact absurd rfl hn
    · exact absurd rfl hn
  have hH := hH.rel (q := a0) (r := 4) (by rw [ka0]; rfl) (by rw [ka0]; rfl)
  have kk := kk.rel ma0 ka0 (Or.inl ⟨by decide, by decide⟩) hI6 hR6 (Or.inr rfl) (fun h => absurd h (by decide)) (by decide) (by decide)
  have old := old.rel (q := a0) (r := 4) (Or.inl rfl)
  obtain ⟨C6, eC6⟩ : ∃ z, z = va_up C0 a0 4 := ⟨_, rfl⟩
  rw [← eC6] at hH kk old
  have ka0 : C6 a0 = 4 := by rw [eC6, va_up_self]
  refine W.widen (k := 0) (n := 0) (by decide) (by decide) ?_
  exact ret _ _ _ _ _ _ _ _ _ dX4_init_29 hH ⟨(kk.wS rfl), old, ka0⟩
set_option maxHeartbeats 4000000 in
set_option maxRecDepth 100000 in
theorem c_X5_init {l : Launch} {D : va_G} {cy : Nat → ClassId} {L0 : List Nat} {C0 : Nat → Nat} {b0 : Nat} {I0 : hI} {J0 : hJ} {R0 : hR} {S : List Nat} {a0 : Nat} (kk : KK L0 C0 I0 R0 (21 :: S)) (ma0 : a0 ∈ L0) (ka0 : C0 a0 = 21) (ria0 : I0 a0 = il []) (rra0 : R0 a0 = rl []) : CA l yX5_init cX5_init 1 1 2 8 D cy L0 C0 b0 [.ref a0] (I0, J0, R0) (fun q => KK q.1 q.2.1 q.2.2.1 q.2.2.2.2 (5 :: 55 :: 54 :: 21 :: S) ∧ Old L0 C0 (I0, J0, R0) a0 q.1 q.2.1 q.2.2.1 q.2.2.2.1 q.2.2.2.2 ∧ q.2.1 a0 = 5) := by
  refine CA.mk (plainFor_of_name (by decide)) (Nat.le_of_ble_eq_true rfl) ?_
  intro p e s m args below meth c ls Q hF hin ret hH hl
  obtain ⟨hx, hb, -, hml, hown, hts, -⟩ := hF
  have hl : lv_has ls 1 [(0, .ref a0)] := hl
  have hH : Hp D cy L0 C0 b0 s s.heap I0 J0 R0 s.heap [] := hH
  have old : Old L0 C0 (I0, J0, R0) a0 L0 C0 I0 J0 R0 := Old.rf
  have hS0 := kk.2.2.2.1
  refine lv_aload_n hx hb dX5_init_0 rfl (lv_at hl 0 rfl) ?_
  refine W.objInit hx hb hown (hts _ km_X5_3) (hts _ ki_objectInit) (hts _ kc_objectInit) rfl (by rw [hml]; exact hl.1) rfl dX5_init_1 (Nat.le_of_ble_eq_true rfl) (Nat.le_of_ble_eq_true rfl) ?_
  refine W.eq (g2 := F0 m 4 ls []) rfl ?_
  refine lv_aload_n hx hb dX5_init_4 rfl (lv_at hl 0 rfl) ?_
  refine lv_iconst (v := 0) hx hb dX5_init_5 (by decide) ?_
  refine pf_5_0 hx hb hts hown hH ma0 ka0 rfl kf_X5_9 dX5_init_6 (fun I1 H locs eI1 hH => ?_)
  have ria0 : I1 a0 = il [(0, 0)] := by rw [eI1]; exact il_put ria0
  have kk : KK L0 C0 I1 R0 (21 :: S) := by rw [eI1]; exact kk.stI ka0 ⟨by decide, by decide⟩
  have old : Old L0 C0 (I0, J0, R0) a0 L0 C0 I1 J0 R0 := by rw [eI1]; exact old.stI (Or.inl rfl)
  refine lv_aload_n hx hb dX5_init_9 rfl (lv_at hl 0 rfl) ?_
  refine lv_iconst (v := 0) hx hb dX5_init_10 (by decide) ?_
  refine pf_5_1 hx hb hts hown hH ma0 ka0 rfl kf_X5_15 dX5_init_11 (fun I2 H locs eI2 hH => ?_)
  have ria0 : I2 a0 = il [(1, 0), (0, 0)] := by rw [eI2]; exact il_put ria0
  have kk : KK L0 C0 I2 R0 (21 :: S) := by rw [eI2]; exact kk.stI ka0 ⟨by decide, by decide⟩
  have old : Old L0 C0 (I0, J0, R0) a0 L0 C0 I2 J0 R0 := by rw [eI2]; exact old.stI (Or.inl rfl)
  refine lv_aload_n hx hb dX5_init_14 rfl (lv_at hl 0 rfl) ?_
  refine lv_iconst (v := 0) hx hb dX5_init_15 (by decide) ?_
  refine pf_5_2 hx hb hts hown hH ma0 ka0 rfl kf_X5_18 dX5_init_16 (fun I3 H locs eI3 hH => ?_)
  have ria0 : I3 a0 = il [(2, 0), (1, 0), (0, 0)] := by rw [eI3]; exact il_put ria0
  have kk : KK L0 C0 I3 R0 (21 :: S) := by rw [eI3]; exact kk.stI ka0 ⟨by decide, by decide⟩
  have old : Old L0 C0 (I0, J0, R0) a0 L0 C0 I3 J0 R0 := by rw [eI3]; exact old.stI (Or.inl rfl)
  refine lv_aload_n hx hb dX5_init_19 rfl (lv_at hl 0 rfl) ?_
  refine lv_iconst (v := 4) hx hb dX5_init_20 (by decide) ?_
  refine hNewP (k := 0) (r := 54) (N := 4) (a0 := (4, .inl (fun _ => 0))) hx hb hts hH rfl kac_int rfl rfl rfl (eN_I rfl rfl) (by decide) (by decide) (by decide) (by decide) (by decide) dX5_init_21 (fun q4 L4 C4 I4 J4 R4 H g4 eI4 eJ4 eR4 hH => ?_)
  have nq4 : q4 ∉ L0 := fun h => g4.2.2 (old q4 h).1
  have rra0 : R4 a0 = rl [] := by rw [eR4, va_up_ne _ _ (g4.ne ma0)]; exact rra0
  have ria0 : I4 a0 = il [(2, 0), (1, 0), (0, 0)] := by rw [eI4, va_up_ne _ _ (g4.ne ma0)]; exact ria0
  have ka0 := g4.role ma0 ka0
  have ma0 := g4.mem ma0
  have mq4 := g4.new
  have kq4 := g4.at
  have kk := kk.new g4 eI4 eR4 zz_54 zr_54 (Or.inl rfl) (by decide)
  have old := old.new g4 eI4 eJ4 eR4
  refine pf_5_3 hx hb hts hown hH hin rfl ma0 ka0 rfl kf_X5_21 dX5_init_23 (fun R5 H locs eR5 hH => ?_)
  have rra0 : R5 a0 = rl [(3, q4)] := by rw [eR5]; exact rl_put rra0
  have kk : KK L4 C4 I4 R5 (54 :: 21 :: S) := by rw [eR5]; exact kk.stR ka0 zr_21
  have old : Old L0 C0 (I0, J0, R0) a0 L4 C4 I4 J4 R5 := by rw [eR5]; exact old.stR (Or.inl rfl)
  refine lv_aload_n hx hb dX5_init_26 rfl (lv_at hl 0 rfl) ?_
  refine lv_iconst (v := 0) hx hb dX5_init_27 (by decide) ?_
  refine pf_5_4 hx hb hts hown hH ma0 ka0 rfl kf_X5_25 dX5_init_28 (fun I6 H locs eI6 hH => ?_)
  have ria0 : I6 a0 = il [(4, 0), (2, 0), (1, 0), (0, 0)] := by rw [eI6]; exact il_put ria0
  have kk : KK L4 C4 I6 R5 (54 :: 21 :: S) := by rw [eI6]; exact kk.stI ka0 ⟨by decide, by decide⟩
  have old : Old L0 C0 (I0, J0, R0) a0 L4 C4 I6 J4 R5 := by rw [eI6]; exact old.stI (Or.inl rfl)
  refine lv_aload_n hx hb dX5_init_31 rfl (lv_at hl 0 rfl) ?_
  refine lv_iconst (v := (-1)) hx hb dX5_init_32 (by decide) ?_
  refine pf_5_5 hx hb hts hown hH ma0 ka0 rfl kf_X5_28 dX5_init_33 (fun I7 H locs eI7 hH => ?_)
  have ria0 : I7 a0 = il [(5, (-1)), (4, 0), (2, 0), (1, 0), (0, 0)] := by rw [eI7]; exact il_put ria0
  have kk : KK L4 C4 I7 R5 (54 :: 21 :: S) := by rw [eI7]; exact kk.stI ka0 ⟨by decide, by decide⟩
  have old : Old L0 C0 (I0, J0, R0) a0 L4 C4 I7 J4 R5 := by rw [eI7]; exact old.stI (Or.inl rfl)
  refine lv_aload_n hx hb dX5_init_36 rfl (lv_at hl 0 rfl) ?_
  refine lv_iconst (v := 0) hx hb dX5_init_37 (by decide) ?_
  refine pf_5_6 hx hb hts hown hH ma0 ka0 rfl kf_X5_31 dX5_init_38 (fun I8 H locs eI8 hH => ?_)
  have ria0 : I8 a0 = il [(6, 0), (5, (-1)), (4, 0), (2, 0), (1, 0), (0, 0)] := by rw [eI8]; exact il_put ria0
  have kk : KK L4 C4 I8 R5 (54 :: 21 :: S) := by rw [eI8]; exact kk.stI ka0 ⟨by decide, by decide⟩
  have old : Old L0 C0 (I0, J0, R0) a0 L4 C4 I8 J4 R5 := by rw [eI8]; exact old.stI (Or.inl rfl)
  refine lv_aload_n hx hb dX5_init_41 rfl (lv_at hl 0 rfl) ?_
  refine lv_iconst (v := 4) hx hb dX5_init_42 (by decide) ?_
  refine hNewP (k := 0) (r := 55) (N := 4) (a0 := (4, .inl (fun _ => 0))) hx hb hts hH rfl kac_int rfl rfl rfl (eN_I rfl rfl) (by decide) (by decide) (by decide) (by decide) (by decide) dX5_init_43 (fun q9 L9 C9 I9 J9 R9 H g9 eI9 eJ9 eR9 hH => ?_)
  have nq9 : q9 ∉ L0 := fun h => g9.2.2 (old q9 h).1
  have rra0 : R9 a0 = rl [(3, q4)] := by rw [eR9, va_up_ne _ _ (g9.ne ma0)]; exact rra0
  have ria0 : I9 a0 = il [(6, 0), (5, (-1)), (4, 0), (2, 0), (1, 0), (0, 0)] := by rw [eI9, va_up_ne _ _ (g9.ne ma0)]; exact ria0
  have ka0 := g9.role ma0 ka0
  have ma0 := g9.mem ma0
  have kq4 := g9.role mq4 kq4
  have mq4 := g9.mem mq4
  have mq9 := g9.new
  have kq9 := g9.at
  have kk := kk.new g9 eI9 eR9 zz_55 zr_55 (Or.inl rfl) (by decide)
  have old := old.new g9 eI9 eJ9 eR9
  refine pf_5_7 hx hb hts hown hH hin rfl ma0 ka0 rfl kf_X5_34 dX5_init_45 (fun R10 H locs eR10 hH => ?_)
  have rra0 : R10 a0 = rl [(7, q9), (3, q4)] := by rw [eR10]; exact rl_put rra0
  have kk : KK L9 C9 I9 R10 (55 :: 54 :: 21 :: S) := by rw [eR10]; exact kk.stR ka0 zr_21
  have old : Old L0 C0 (I0, J0, R0) a0 L9 C9 I9 J9 R10 := by rw [eR10]; exact old.stR (Or.inl rfl)
  have hI11 : ∀ j, j < rN 5 → rLo 5 j ≤ (I9 a0 j).toInt ∧ (I9 a0 j).toInt ≤ rHi 5 j ∧ (rX 5 = true → (I9 a0 j).toInt ≤ 3 ∨ (I9 a0 j).toInt = 9) := by rw [ria0]; decide +kernel
  have hR11 : ∀ j, j < rN 5 → rR 5 j ≠ 0 → ∃ b, b ∈ L9 ∧ b ≠ a0 ∧ R10 a0 j = some b ∧ C9 b + 1 = rR 5 j := by
    intro j hj hn
    rw [rra0]
    have hj : j < 8 := hj
    rcases (show j = 0 ∨ j = 1 ∨ j = 2 ∨ j = 3 ∨ j = 4 ∨ j = 5 ∨ j = 6 ∨ j = 7 by omega) with rfl | rfl | rfl | rfl | rfl | rfl | rfl | rfl
    · exact absurd rfl hn
    · exact absurd rfl hn
    · exact absurd rfl hn
    · exact ⟨q4, mq4, ne_role kq4 ka0 (by decide), rfl, by rw [kq4]; rfl⟩
    · exact absurd rfl hn
    · exact absurd rfl hn
    · exact absurd rfl hn
    · exact ⟨q9, mq9, ne_role kq9 ka0 (by decide), rfl, by rw [kq9]; rfl⟩
  have hH := hH.rel (q := a0) (r := 5) (by rw [ka0]; rfl) (by rw [ka0]; rfl)
  have kk := kk.rel ma0 ka0 (Or.inl ⟨by decide, by decide⟩) hI11 hR11 (Or.inl rfl) (fun _ => by rw [ria0]; decide) (by decide) (by decide)
  have old := old.rel (q := a0) (r := 5) (Or.inl rfl)
  obtain ⟨C11, eC11⟩ : ∃ z, z = va_up C9 a0 5 := ⟨_, rfl⟩
  rw [← eC11] at hH kk old
  have kq4 : C11 q4 = 54 := by rw [eC11, va_up_ne _ _ (ne_role kq4 ka0 (by decide))]; exact kq4
  have kq9 : C11 q9 = 55 := by rw [eC11, va_up_ne _ _ (ne_role kq9 ka0 (by decide))]; exact kq9
  have ka0 : C11 a0 = 5 := by rw [eC11, va_up_self]
  refine W.widen (k := 2) (n := 8) (by decide) (by decide) ?_
  exact ret _ _ _ _ _ _ _ _ _ dX5_init_48 hH ⟨kk, old, ka0⟩
set_option maxHeartbeats 4000000 in
set_option maxRecDepth 100000 in
theorem c_X1_init {l : Launch} {D : va_G} {cy : Nat → ClassId} {L0 : List Nat} {C0 : Nat → Nat} {b0 : Nat} {I0 : hI} {J0 : hJ} {R0 : hR} {a0 a1 a2 a3 a4 : Nat} (kk : KK L0 C0 I0 R0 [17, 0, 2, 3, 4, 6, 8, 16, 18, 19, 20, 22, 24, 25, 26, 32, 33, 34, 35, 36, 37, 38, 39, 40, 41, 42, 43, 44, 45, 46, 47, 48, 49, 60]) (ma0 : a0 ∈ L0) (ka0 : C0 a0 = 17) (ria0 : I0 a0 = il []) (rra0 : R0 a0 = rl []) (ma1 : a1 ∈ L0) (ka1 : C0 a1 = 6) (ma2 : a2 ∈ L0) (ka2 : C0 a2 = 2) (ma3 : a3 ∈ L0) (ka3 : C0 a3 = 3) (ma4 : a4 ∈ L0) (ka4 : C0 a4 = 4) : CA l yX1_init cX1_init 7 2 8 79 D cy L0 C0 b0 [.ref a0, .ref a1, .ref a2, .ref a3, .ref a4] (I0, J0, R0) (fun q => KK q.1 q.2.1 q.2.2.1 q.2.2.2.2 [0, 1, 2, 3, 4, 5, 6, 8, 16, 17, 18, 19, 20, 21, 22, 24, 25, 26, 32, 33, 34, 35, 36, 37, 38, 39, 40, 41, 42, 43, 44, 45, 46, 47, 48, 49, 50, 51, 52, 53, 54, 55, 59, 60] ∧ Old L0 C0 (I0, J0, R0) a0 q.1 q.2.1 q.2.2.1 q.2.2.2.1 q.2.2.2.2 ∧ q.2.1 a0 = 1) := by
  refine CA.mk (plainFor_of_name (by decide)) (Nat.le_of_ble_eq_true rfl) ?_
  intro p e s m args below meth c ls Q hF hin ret hH hl
  obtain ⟨hx, hb, -, hml, hown, hts, -⟩ := hF
  have hl : lv_has ls 7 [(0, .ref a0), (1, .ref a1), (2, .ref a2), (3, .ref a3), (4, .ref a4)] := hl
  have hH : Hp D cy L0 C0 b0 s s.heap I0 J0 R0 s.heap [] := hH
  have old : Old L0 C0 (I0, J0, R0) a0 L0 C0 I0 J0 R0 := Old.rf
  have hS0 := kk.2.2.2.1
  refine lv_aload_n hx hb dX1_init_0 rfl (lv_at hl 0 rfl) ?_
  refine W.objInit hx hb hown (hts _ km_X1_3) (hts _ ki_objectInit) (hts _ kc_objectInit) rfl (by rw [hml]; exact hl.1) rfl dX1_init_1 (Nat.le_of_ble_eq_true rfl) (Nat.le_of_ble_eq_true rfl) ?_
  refine W.eq (g2 := F0 m 4 ls []) rfl ?_
  refine lv_aload_n hx hb dX1_init_4 rfl (lv_at hl 0 rfl) ?_
  refine lv_iconst (v := 4) hx hb dX1_init_5 (by decide) ?_
  refine hNewP (k := 1) (r := 50) (N := 4) (a0 := (4, .inr (.inl (fun _ => 0)))) hx hb hts hH rfl kac_long rfl rfl rfl (eN_J rfl rfl) (by decide) (by decide) (by decide) (by decide) (by decide) dX1_init_6 (fun q1 L1 C1 I1 J1 R1 H g1 eI1 eJ1 eR1 hH => ?_)
  have nq1 : q1 ∉ L0 := fun h => g1.2.2 (old q1 h).1
  have rra0 : R1 a0 = rl [] := by rw [eR1, va_up_ne _ _ (g1.ne ma0)]; exact rra0
  have ria0 : I1 a0 = il [] := by rw [eI1, va_up_ne _ _ (g1.ne ma0)]; exact ria0
  have ka0 := g1.role ma0 ka0
  have ma0 := g1.mem ma0
  have ka1 := g1.role ma1 ka1
  have ma1 := g1.mem ma1
  have ka2 := g1.role ma2 ka2
  have ma2 := g1.mem ma2
  have ka3 := g1.role ma3 ka3
  have ma3 := g1.mem ma3
  have ka4 := g1.role ma4 ka4
  have ma4 := g1.mem ma4
  have mq1 := g1.new
  have kq1 := g1.at
  have kk := kk.new g1 eI1 eR1 zz_50 zr_50 (Or.inr rfl) (by decide)
  have old := old.new g1 eI1 eJ1 eR1
  refine pf_1_4 hx hb hts hown hH hin rfl ma0 ka0 rfl kf_X1_9 dX1_init_8 (fun R2 H locs eR2 hH => ?_)
  have rra0 : R2 a0 = rl [(4, q1)] := by rw [eR2]; exact rl_put rra0
  have kk : KK L1 C1 I1 R2 [50, 17, 0, 2, 3, 4, 6, 8, 16, 18, 19, 20, 22, 24, 25, 26, 32, 33, 34, 35, 36, 37, 38, 39, 40, 41, 42, 43, 44, 45, 46, 47, 48, 49, 60] := by rw [eR2]; exact kk.stR ka0 zr_17
  have old : Old L0 C0 (I0, J0, R0) a0 L1 C1 I1 J1 R2 := by rw [eR2]; exact old.stR (Or.inl rfl)
  refine lv_aload_n hx hb dX1_init_11 rfl (lv_at hl 0 rfl) ?_
  refine lv_bipush (v := 11) hx hb dX1_init_12 (by decide) ?_
  refine hNewQ (k := 3) (r := 59) (N := 11) hx hb hts hown hH kcl_X1_15 hH.2.2.2.2.2.2.1.1 rfl (eN_M rfl rfl) (by decide) (by decide) (by decide) (by decide) (by decide) dX1_init_14 (fun q3 L3 C3 I3 J3 R3 H g3 eI3 eJ3 eR3 hH => ?_)
  have nq3 : q3 ∉ L0 := fun h => g3.2.2 (old q3 h).1
  have rra0 : R3 a0 = rl [(4, q1)] := by rw [eR3, va_up_ne _ _ (g3.ne ma0)]; exact rra0
  have ria0 : I3 a0 = il [] := by rw [eI3, va_up_ne _ _ (g3.ne ma0)]; exact ria0
  have ka0 := g3.role ma0 ka0
  have ma0 := g3.mem ma0
  have ka1 := g3.role ma1 ka1
  have ma1 := g3.mem ma1
  have ka2 := g3.role ma2 ka2
  have ma2 := g3.mem ma2
  have ka3 := g3.role ma3 ka3
  have ma3 := g3.mem ma3
  have ka4 := g3.role ma4 ka4
  have ma4 := g3.mem ma4
  have kq1 := g3.role mq1 kq1
  have mq1 := g3.mem mq1
  have mq3 := g3.new
  have kq3 := g3.at
  have rrq3 : R3 q3 = rl [] := by rw [eR3, va_up_self]; rfl
  have riq3 : I3 q3 = il [] := by rw [eI3, va_up_self]; rfl
  have kk := kk.new g3 eI3 eR3 zz_59 zr_59 (Or.inl rfl) (by decide)
  have old := old.new g3 eI3 eJ3 eR3
  refine pf_1_5 hx hb hts hown hH hin rfl ma0 ka0 rfl kf_X1_17 dX1_init_17 (fun R4 H locs eR4 hH => ?_)
  have rrq3 : R4 q3 = rl [] := by rw [eR4, u2_ne (ne_role kq3 ka0 (by decide))]; exact rrq3
  have rra0 : R4 a0 = rl [(5, q3), (4, q1)] := by rw [eR4]; exact rl_put rra0
  have kk : KK L3 C3 I3 R4 [59, 50, 17, 0, 2, 3, 4, 6, 8, 16, 18, 19, 20, 22, 24, 25, 26, 32, 33, 34, 35, 36, 37, 38, 39, 40, 41, 42, 43, 44, 45, 46, 47, 48, 49, 60] := by rw [eR4]; exact kk.stR ka0 zr_17
  have old : Old L0 C0 (I0, J0, R0) a0 L3 C3 I3 J3 R4 := by rw [eR4]; exact old.stR (Or.inl rfl)
  refine lv_aload_n hx hb dX1_init_20 rfl (lv_at hl 0 rfl) ?_
  refine lv_bipush (v := 40) hx hb dX1_init_21 (by decide) ?_
  refine hNewP (k := 0) (r := 52) (N := 40) (a0 := (40, .inl (fun _ => 0))) hx hb hts hH rfl kac_int rfl rfl rfl (eN_I rfl rfl) (by decide) (by decide) (by decide) (by decide) (by decide) dX1_init_23 (fun q5 L5 C5 I5 J5 R5 H g5 eI5 eJ5 eR5 hH => ?_)
  have nq5 : q5 ∉ L0 := fun h => g5.2.2 (old q5 h).1
  have rra0 : R5 a0 = rl [(5, q3), (4, q1)] := by rw [eR5, va_up_ne _ _ (g5.ne ma0)]; exact rra0
  have ria0 : I5 a0 = il [] := by rw [eI5, va_up_ne _ _ (g5.ne ma0)]; exact ria0
  have ka0 := g5.role ma0 ka0
  have ma0 := g5.mem ma0
  have ka1 := g5.role ma1 ka1
  have ma1 := g5.mem ma1
  have ka2 := g5.role ma2 ka2
  have ma2 := g5.mem ma2
  have ka3 := g5.role ma3 ka3
  have ma3 := g5.mem ma3
  have ka4 := g5.role ma4 ka4
  have ma4 := g5.mem ma4
  have kq1 := g5.role mq1 kq1
  have mq1 := g5.mem mq1
  have rrq3 : R5 q3 = rl [] := by rw [eR5, va_up_ne _ _ (g5.ne mq3)]; exact rrq3
  have riq3 : I5 q3 = il [] := by rw [eI5, va_up_ne _ _ (g5.ne mq3)]; exact riq3
  have kq3 := g5.role mq3 kq3
  have mq3 := g5.mem mq3
  have mq5 := g5.new
  have kq5 := g5.at
  have kk := kk.new g5 eI5 eR5 zz_52 zr_52 (Or.inr rfl) (by decide)
  have old := old.new g5 eI5 eJ5 eR5
  refine pf_1_6 hx hb hts hown hH hin rfl ma0 ka0 rfl kf_X1_21 dX1_init_25 (fun R6 H locs eR6 hH => ?_)
  have rrq3 : R6 q3 = rl [] := by rw [eR6, u2_ne (ne_role kq3 ka0 (by decide))]; exact rrq3
  have rra0 : R6 a0 = rl [(6, q5), (5, q3), (4, q1)] := by rw [eR6]; exact rl_put rra0
  have kk : KK L5 C5 I5 R6 [52, 59, 50, 17, 0, 2, 3, 4, 6, 8, 16, 18, 19, 20, 22, 24, 25, 26, 32, 33, 34, 35, 36, 37, 38, 39, 40, 41, 42, 43, 44, 45, 46, 47, 48, 49, 60] := by rw [eR6]; exact kk.stR ka0 zr_17
  have old : Old L0 C0 (I0, J0, R0) a0 L5 C5 I5 J5 R6 := by rw [eR6]; exact old.stR (Or.inl rfl)
  refine lv_aload_n hx hb dX1_init_28 rfl (lv_at hl 0 rfl) ?_
  refine lv_iconst (v := 0) hx hb dX1_init_29 (by decide) ?_
  refine pf_1_7 hx hb hts hown hH ma0 ka0 rfl kf_X1_25 dX1_init_30 (fun I7 H locs eI7 hH => ?_)
  have riq3 : I7 q3 = il [] := by rw [eI7, u2_ne (ne_role kq3 ka0 (by decide))]; exact riq3
  have ria0 : I7 a0 = il [(7, 0)] := by rw [eI7]; exact il_put ria0
  have kk : KK L5 C5 I7 R6 [52, 59, 50, 17, 0, 2, 3, 4, 6, 8, 16, 18, 19, 20, 22, 24, 25, 26, 32, 33, 34, 35, 36, 37, 38, 39, 40, 41, 42, 43, 44, 45, 46, 47, 48, 49, 60] := by rw [eI7]; exact kk.stI ka0 ⟨by decide, by decide⟩
  have old : Old L0 C0 (I0, J0, R0) a0 L5 C5 I7 J5 R6 := by rw [eI7]; exact old.stI (Or.inl rfl)
  refine lv_aload_n hx hb dX1_init_33 rfl (lv_at hl 0 rfl) ?_
  refine lv_iconst (v := 4) hx hb dX1_init_34 (by decide) ?_
  refine hNewP (k := 1) (r := 53) (N := 4) (a0 := (4, .inr (.inl (fun _ => 0)))) hx hb hts hH rfl kac_long rfl rfl rfl (eN_J rfl rfl) (by decide) (by decide) (by decide) (by decide) (by decide) dX1_init_35 (fun q8 L8 C8 I8 J8 R8 H g8 eI8 eJ8 eR8 hH => ?_)
  have nq8 : q8 ∉ L0 := fun h => g8.2.2 (old q8 h).1
  have rra0 : R8 a0 = rl [(6, q5), (5, q3), (4, q1)] := by rw [eR8, va_up_ne _ _ (g8.ne ma0)]; exact rra0
  have ria0 : I8 a0 = il [(7, 0)] := by rw [eI8, va_up_ne _ _ (g8.ne ma0)]; exact ria0
  have ka0 := g8.role ma0 ka0
  have ma0 := g8.mem ma0
  have ka1 := g8.role ma1 ka1
  have ma1 := g8.mem ma1
  have ka2 := g8.role ma2 ka2
  have ma2 := g8.mem ma2
  have ka3 := g8.role ma3 ka3
  have ma3 := g8.mem ma3
  have ka4 := g8.role ma4 ka4
  have ma4 := g8.mem ma4
  have kq1 := g8.role mq1 kq1
  have mq1 := g8.mem mq1
  have rrq3 : R8 q3 = rl [] := by rw [eR8, va_up_ne _ _ (g8.ne mq3)]; exact rrq3
  have riq3 : I8 q3 = il [] := by rw [eI8, va_up_ne _ _ (g8.ne mq3)]; exact riq3
  have kq3 := g8.role mq3 kq3
  have mq3 := g8.mem mq3
  have kq5 := g8.role mq5 kq5
  have mq5 := g8.mem mq5
  have mq8 := g8.new
  have kq8 := g8.at
  have kk := kk.new g8 eI8 eR8 zz_53 zr_53 (Or.inl rfl) (by decide)
  have old := old.new g8 eI8 eJ8 eR8
  refine pf_1_8 hx hb hts hown hH ma0 ka0 rfl kf_X1_29 dX1_init_37 (fun R9 H locs eR9 hH => ?_)
  have rrq3 : R9 q3 = rl [] := by rw [eR9, u2_ne (ne_role kq3 ka0 (by decide))]; exact rrq3
  have rra0 : R9 a0 = rl [(8, q8), (6, q5), (5, q3), (4, q1)] := by rw [eR9]; exact rl_put rra0
  have kk : KK L8 C8 I8 R9 [53, 52, 59, 50, 17, 0, 2, 3, 4, 6, 8, 16, 18, 19, 20, 22, 24, 25, 26, 32, 33, 34, 35, 36, 37, 38, 39, 40, 41, 42, 43, 44, 45, 46, 47, 48, 49, 60] := by rw [eR9]; exact kk.stR ka0 zr_17
  have old : Old L0 C0 (I0, J0, R0) a0 L8 C8 I8 J8 R9 := by rw [eR9]; exact old.stR (Or.inl rfl)
  refine lv_aload_n hx hb dX1_init_40 rfl (lv_at hl 0 rfl) ?_
  refine lv_iconst (v := 4) hx hb dX1_init_41 (by decide) ?_
  refine hNewP (k := 1) (r := 53) (N := 4) (a0 := (4, .inr (.inl (fun _ => 0)))) hx hb hts hH rfl kac_long rfl rfl rfl (eN_J rfl rfl) (by decide) (by decide) (by decide) (by decide) (by decide) dX1_init_42 (fun q10 L10 C10 I10 J10 R10 H g10 eI10 eJ10 eR10 hH => ?_)
  have nq10 : q10 ∉ L0 := fun h => g10.2.2 (old q10 h).1
  have rra0 : R10 a0 = rl [(8, q8), (6, q5), (5, q3), (4, q1)] := by rw [eR10, va_up_ne _ _ (g10.ne ma0)]; exact rra0
  have ria0 : I10 a0 = il [(7, 0)] := by rw [eI10, va_up_ne _ _ (g10.ne ma0)]; exact ria0
  have ka0 := g10.role ma0 ka0
  have ma0 := g10.mem ma0
  have ka1 := g10.role ma1 ka1
  have ma1 := g10.mem ma1
  have ka2 := g10.role ma2 ka2
  have ma2 := g10.mem ma2
  have ka3 := g10.role ma3 ka3
  have ma3 := g10.mem ma3
  have ka4 := g10.role ma4 ka4
  have ma4 := g10.mem ma4
  have kq1 := g10.role mq1 kq1
  have mq1 := g10.mem mq1
  have rrq3 : R10 q3 = rl [] := by rw [eR10, va_up_ne _ _ (g10.ne mq3)]; exact rrq3
  have riq3 : I10 q3 = il [] := by rw [eI10, va_up_ne _ _ (g10.ne mq3)]; exact riq3
  have kq3 := g10.role mq3 kq3
  have mq3 := g10.mem mq3
  have kq5 := g10.role mq5 kq5
  have mq5 := g10.mem mq5
  have kq8 := g10.role mq8 kq8
  have mq8 := g10.mem mq8
  have mq10 := g10.new
  have kq10 := g10.at
  have kk := kk.new g10 eI10 eR10 zz_53 zr_53 (Or.inl rfl) (by decide)
  have old := old.new g10 eI10 eJ10 eR10
  refine pf_1_9 hx hb hts hown hH ma0 ka0 rfl kf_X1_32 dX1_init_44 (fun R11 H locs eR11 hH => ?_)
  have rrq3 : R11 q3 = rl [] := by rw [eR11, u2_ne (ne_role kq3 ka0 (by decide))]; exact rrq3
  have rra0 : R11 a0 = rl [(9, q10), (8, q8), (6, q5), (5, q3), (4, q1)] := by rw [eR11]; exact rl_put rra0
  have kk : KK L10 C10 I10 R11 [53, 53, 52, 59, 50, 17, 0, 2, 3, 4, 6, 8, 16, 18, 19, 20, 22, 24, 25, 26, 32, 33, 34, 35, 36, 37, 38, 39, 40, 41, 42, 43, 44, 45, 46, 47, 48, 49, 60] := by rw [eR11]; exact kk.stR ka0 zr_17
  have old : Old L0 C0 (I0, J0, R0) a0 L10 C10 I10 J10 R11 := by rw [eR11]; exact old.stR (Or.inl rfl)
  refine lv_aload_n hx hb dX1_init_47 rfl (lv_at hl 0 rfl) ?_
  refine lv_lconst (v := 0) hx hb dX1_init_48 (by decide) ?_
  refine pf_1_10 hx hb hts hown hH ma0 ka0 rfl kf_X1_35 dX1_init_49 (fun J12 H locs eJ12 hH => ?_)
  have old : Old L0 C0 (I0, J0, R0) a0 L10 C10 I10 J12 R11 := by rw [eJ12]; exact old.stJ (Or.inl rfl)
  refine lv_aload_n hx hb dX1_init_52 rfl (lv_at hl 0 rfl) ?_
  refine lv_aload_n hx hb dX1_init_53 rfl (lv_at hl 1 rfl) ?_
  refine pf_1_0 hx hb hts hown hH hin rfl ma0 ka0 rfl kf_X1_39 dX1_init_54 (fun R13 H locs eR13 hH => ?_)
  have rrq3 : R13 q3 = rl [] := by rw [eR13, u2_ne (ne_role kq3 ka0 (by decide))]; exact rrq3
  have rra0 : R13 a0 = rl [(0, a1), (9, q10), (8, q8), (6, q5), (5, q3), (4, q1)] := by rw [eR13]; exact rl_put rra0
  have kk : KK L10 C10 I10 R13 [53, 53, 52, 59, 50, 17, 0, 2, 3, 4, 6, 8, 16, 18, 19, 20, 22, 24, 25, 26, 32, 33, 34, 35, 36, 37, 38, 39, 40, 41, 42, 43, 44, 45, 46, 47, 48, 49, 60] := by rw [eR13]; exact kk.stR ka0 zr_17
  have old : Old L0 C0 (I0, J0, R0) a0 L10 C10 I10 J12 R13 := by rw [eR13]; exact old.stR (Or.inl rfl)
  refine lv_aload_n hx hb dX1_init_57 rfl (lv_at hl 0 rfl) ?_
  refine lv_aload_n hx hb dX1_init_58 rfl (lv_at hl 2 rfl) ?_
  refine pf_1_1 hx hb hts hown hH hin rfl ma0 ka0 rfl kf_X1_43 dX1_init_59 (fun R14 H locs eR14 hH => ?_)
  have rrq3 : R14 q3 = rl [] := by rw [eR14, u2_ne (ne_role kq3 ka0 (by decide))]; exact rrq3
  have rra0 : R14 a0 = rl [(1, a2), (0, a1), (9, q10), (8, q8), (6, q5), (5, q3), (4, q1)] := by rw [eR14]; exact rl_put rra0
  have kk : KK L10 C10 I10 R14 [53, 53, 52, 59, 50, 17, 0, 2, 3, 4, 6, 8, 16, 18, 19, 20, 22, 24, 25, 26, 32, 33, 34, 35, 36, 37, 38, 39, 40, 41, 42, 43, 44, 45, 46, 47, 48, 49, 60] := by rw [eR14]; exact kk.stR ka0 zr_17
  have old : Old L0 C0 (I0, J0, R0) a0 L10 C10 I10 J12 R14 := by rw [eR14]; exact old.stR (Or.inl rfl)
  refine lv_aload_n hx hb dX1_init_62 rfl (lv_at hl 0 rfl) ?_
  refine lv_aload_n hx hb dX1_init_63 rfl (lv_at hl 3 rfl) ?_
  refine pf_1_2 hx hb hts hown hH hin rfl ma0 ka0 rfl kf_X1_47 dX1_init_64 (fun R15 H locs eR15 hH => ?_)
  have rrq3 : R15 q3 = rl [] := by rw [eR15, u2_ne (ne_role kq3 ka0 (by decide))]; exact rrq3
  have rra0 : R15 a0 = rl [(2, a3), (1, a2), (0, a1), (9, q10), (8, q8), (6, q5), (5, q3), (4, q1)] := by rw [eR15]; exact rl_put rra0
  have kk : KK L10 C10 I10 R15 [53, 53, 52, 59, 50, 17, 0, 2, 3, 4, 6, 8, 16, 18, 19, 20, 22, 24, 25, 26, 32, 33, 34, 35, 36, 37, 38, 39, 40, 41, 42, 43, 44, 45, 46, 47, 48, 49, 60] := by rw [eR15]; exact kk.stR ka0 zr_17
  have old : Old L0 C0 (I0, J0, R0) a0 L10 C10 I10 J12 R15 := by rw [eR15]; exact old.stR (Or.inl rfl)
  refine lv_aload_n hx hb dX1_init_67 rfl (lv_at hl 0 rfl) ?_
  refine lv_aload hx hb dX1_init_68 (lv_at hl 4 rfl) ?_
  refine pf_1_3 hx hb hts hown hH hin rfl ma0 ka0 rfl kf_X1_51 dX1_init_70 (fun R16 H locs eR16 hH => ?_)
  have rrq3 : R16 q3 = rl [] := by rw [eR16, u2_ne (ne_role kq3 ka0 (by decide))]; exact rrq3
  have rra0 : R16 a0 = rl [(3, a4), (2, a3), (1, a2), (0, a1), (9, q10), (8, q8), (6, q5), (5, q3), (4, q1)] := by rw [eR16]; exact rl_put rra0
  have kk : KK L10 C10 I10 R16 [53, 53, 52, 59, 50, 17, 0, 2, 3, 4, 6, 8, 16, 18, 19, 20, 22, 24, 25, 26, 32, 33, 34, 35, 36, 37, 38, 39, 40, 41, 42, 43, 44, 45, 46, 47, 48, 49, 60] := by rw [eR16]; exact kk.stR ka0 zr_17
  have old : Old L0 C0 (I0, J0, R0) a0 L10 C10 I10 J12 R16 := by rw [eR16]; exact old.stR (Or.inl rfl)
  refine hNew (ci := 5) (N := 8) hx hb hts hown hH inX5 tyX5_ok rfl (by decide) rfl df_5 kcl_X1_15 kinst_X5 kini_X5 (by decide) (by decide) dX1_init_73 (fun q17 L17 C17 I17 J17 R17 H g17 eI17 eJ17 eR17 hH => ?_)
  have nq17 : q17 ∉ L0 := fun h => g17.2.2 (old q17 h).1
  have rra0 : R17 a0 = rl [(3, a4), (2, a3), (1, a2), (0, a1), (9, q10), (8, q8), (6, q5), (5, q3), (4, q1)] := by rw [eR17, va_up_ne _ _ (g17.ne ma0)]; exact rra0
  have ria0 : I17 a0 = il [(7, 0)] := by rw [eI17, va_up_ne _ _ (g17.ne ma0)]; exact ria0
  have ka0 := g17.role ma0 ka0
  have ma0 := g17.mem ma0
  have ka1 := g17.role ma1 ka1
  have ma1 := g17.mem ma1
  have ka2 := g17.role ma2 ka2
  have ma2 := g17.mem ma2
  have ka3 := g17.role ma3 ka3
  have ma3 := g17.mem ma3
  have ka4 := g17.role ma4 ka4
  have ma4 := g17.mem ma4
  have kq1 := g17.role mq1 kq1
  have mq1 := g17.mem mq1
  have rrq3 : R17 q3 = rl [] := by rw [eR17, va_up_ne _ _ (g17.ne mq3)]; exact rrq3
  have riq3 : I17 q3 = il [] := by rw [eI17, va_up_ne _ _ (g17.ne mq3)]; exact riq3
  have kq3 := g17.role mq3 kq3
  have mq3 := g17.mem mq3
  have kq5 := g17.role mq5 kq5
  have mq5 := g17.mem mq5
  have kq8 := g17.role mq8 kq8
  have mq8 := g17.mem mq8
  have kq10 := g17.role mq10 kq10
  have mq10 := g17.mem mq10
  have mq17 := g17.new
  have kq17 := g17.at
  have rrq17 : R17 q17 = rl [] := by rw [eR17, va_up_self]; rfl
  have riq17 : I17 q17 = il [] := by rw [eI17, va_up_self]; rfl
  have kk := kk.new g17 eI17 eR17 zz_21 zr_21 (Or.inl rfl) (by decide)
  have old := old.new g17 eI17 eJ17 eR17
  refine lv_dup hx hb dX1_init_76 rfl ?_
  refine afA (va_runIN (As := []) (rest := [.ref q17]) ⟨hx, hb, hml, hown, hts⟩ (c_X5_init kk mq17 kq17 riq17 rrq17) ⟨va_cnB 0 hts (wG_code kc_yX5_init) rfl rfl rfl (hH.2.2.2.2.2.1 _ kn_X1_55) (hts _ kini_X5) ⟨by decide, by decide, by decide +kernel⟩ ⟨by decide, by decide⟩, rfl, hts _ ki_yX5_init⟩ (preS hH) rfl rfl hl.1 rfl (lv_room (Nat.le_of_ble_eq_true rfl)) dX1_init_77 ⟨by decide, by decide⟩) hH (fun L18 C18 I18 J18 R18 H locs hp hH => ?_)
  obtain ⟨kk, od18, kq18⟩ := hp
  have ne18 : a0 ≠ q17 := ne_role ka0 kq17 (by decide)
  have rra0 : R18 a0 = rl [(3, a4), (2, a3), (1, a2), (0, a1), (9, q10), (8, q8), (6, q5), (5, q3), (4, q1)] := ((od18 a0 ma0).2 ne18).2.2.2.trans rra0
  have ria0 : I18 a0 = il [(7, 0)] := ((od18 a0 ma0).2 ne18).2.1.trans ria0
  have ka0 : C18 a0 = 17 := ((od18 a0 ma0).2 ne18).1.trans ka0
  have ma0 := (od18 a0 ma0).1
  have ne18 : a1 ≠ q17 := ne_role ka1 kq17 (by decide)
  have ka1 : C18 a1 = 6 := ((od18 a1 ma1).2 ne18).1.trans ka1
  have ma1 := (od18 a1 ma1).1
  have ne18 : a2 ≠ q17 := ne_role ka2 kq17 (by decide)
  have ka2 : C18 a2 = 2 := ((od18 a2 ma2).2 ne18).1.trans ka2
  have ma2 := (od18 a2 ma2).1
  have ne18 : a3 ≠ q17 := ne_role ka3 kq17 (by decide)
  have ka3 : C18 a3 = 3 := ((od18 a3 ma3).2 ne18).1.trans ka3
  have ma3 := (od18 a3 ma3).1
  have ne18 : a4 ≠ q17 := ne_role ka4 kq17 (by decide)
  have ka4 : C18 a4 = 4 := ((od18 a4 ma4).2 ne18).1.trans ka4
  have ma4 := (od18 a4 ma4).1
  have ne18 : q1 ≠ q17 := ne_role kq1 kq17 (by decide)
  have kq1 : C18 q1 = 50 := ((od18 q1 mq1).2 ne18).1.trans kq1
  have mq1 := (od18 q1 mq1).1
  have ne18 : q3 ≠ q17 := ne_role kq3 kq17 (by decide)
  have rrq3 : R18 q3 = rl [] := ((od18 q3 mq3).2 ne18).2.2.2.trans rrq3
  have riq3 : I18 q3 = il [] := ((od18 q3 mq3).2 ne18).2.1.trans riq3
  have kq3 : C18 q3 = 59 := ((od18 q3 mq3).2 ne18).1.trans kq3
  have mq3 := (od18 q3 mq3).1
  have ne18 : q5 ≠ q17 := ne_role kq5 kq17 (by decide)
  have kq5 : C18 q5 = 52 := ((od18 q5 mq5).2 ne18).1.trans kq5
  have mq5 := (od18 q5 mq5).1
  have ne18 : q8 ≠ q17 := ne_role kq8 kq17 (by decide)
  have kq8 : C18 q8 = 53 := ((od18 q8 mq8).2 ne18).1.trans kq8
  have mq8 := (od18 q8 mq8).1
  have ne18 : q10 ≠ q17 := ne_role kq10 kq17 (by decide)
  have kq10 : C18 q10 = 53 := ((od18 q10 mq10).2 ne18).1.trans kq10
  have mq10 := (od18 q10 mq10).1
  have kq17 : C18 q17 = 5 := kq18
  have mq17 := (od18 q17 mq17).1
  have old := old.ctor od18 nq17
  have kk : KK L18 C18 I18 R18 [0, 2, 3, 4, 5, 6, 8, 16, 17, 18, 19, 20, 21, 22, 24, 25, 26, 32, 33, 34, 35, 36, 37, 38, 39, 40, 41, 42, 43, 44, 45, 46, 47, 48, 49, 50, 52, 53, 54, 55, 59, 60] := kk.wS rfl
  refine lv_astore (lv' := [(5, .ref q17), (0, .ref a0), (1, .ref a1), (2, .ref a2), (3, .ref a3), (4, .ref a4)]) hx hb dX1_init_80 hl (by decide) rfl (fun ls hl => ?_)
  refine lv_iconst (v := 0) hx hb dX1_init_82 (by decide) ?_
  refine lv_istore (lv' := [(6, .int 0), (5, .ref q17), (0, .ref a0), (1, .ref a1), (2, .ref a2), (3, .ref a3), (4, .ref a4)]) hx hb dX1_init_83 hl (by decide) rfl (fun ls hl => ?_)
  refine lv_iload hx hb dX1_init_85 (lv_at hl 0 rfl) ?_
  refine lv_bipush (v := 10) hx hb dX1_init_87 (by decide) ?_
  refine lv_icmp_gt (tgt := 107) hx hb dX1_init_89 (by decide) (fun q => absurd q (by decide)) (fun q => ?_)
  refine lv_aload_n hx hb dX1_init_92 rfl (lv_at hl 2 rfl) ?_
  refine gf_1_5 (b := q3) (by rw [rra0]; rfl) hx hb hts hown hH ma0 ka0 rfl kf_X1_17 dX1_init_93 ?_
  refine lv_iload hx hb dX1_init_96 (lv_at hl 0 rfl) ?_
  refine lv_aload hx hb dX1_init_98 (lv_at hl 1 rfl) ?_
  refine st_59 hx hb hH mq3 kq3 (Rg_in (Rg_c (x := 0) (a := 0) (b := 0) (by decide)) (by decide)) mq17 kq17 rfl dX1_init_100 (fun R19 H locs eR19 hH => ?_)
  have rra0 : R19 a0 = rl [(3, a4), (2, a3), (1, a2), (0, a1), (9, q10), (8, q8), (6, q5), (5, q3), (4, q1)] := by rw [eR19, u2_ne (ne_role ka0 kq3 (by decide))]; exact rra0
  have rrq3 : R19 q3 = rl [(0, q17)] := by rw [eR19]; exact rl_put rrq3
  have kk : KK L18 C18 I18 R19 [0, 2, 3, 4, 5, 6, 8, 16, 17, 18, 19, 20, 21, 22, 24, 25, 26, 32, 33, 34, 35, 36, 37, 38, 39, 40, 41, 42, 43, 44, 45, 46, 47, 48, 49, 50, 52, 53, 54, 55, 59, 60] := by rw [eR19]; exact kk.stR kq3 zr_59
  have old : Old L0 C0 (I0, J0, R0) a0 L18 C18 I18 J18 R19 := by rw [eR19]; exact old.stR (Or.inr nq3)
  refine lv_iinc (v := 1) (lv' := [(6, .int 1), (5, .ref q17), (0, .ref a0), (1, .ref a1), (2, .ref a2), (3, .ref a3), (4, .ref a4)]) hx hb dX1_init_101 hl (k := 0) rfl (by decide) (by decide) rfl (fun ls hl => ?_)
  refine lv_goto (tgt := 85) hx hb dX1_init_104 (by decide) ?_
  refine lv_iload hx hb dX1_init_85 (lv_at hl 0 rfl) ?_
  refine lv_bipush (v := 10) hx hb dX1_init_87 (by decide) ?_
  refine lv_icmp_gt (tgt := 107) hx hb dX1_init_89 (by decide) (fun q => absurd q (by decide)) (fun q => ?_)
  refine lv_aload_n hx hb dX1_init_92 rfl (lv_at hl 2 rfl) ?_
  refine gf_1_5 (b := q3) (by rw [rra0]; rfl) hx hb hts hown hH ma0 ka0 rfl kf_X1_17 dX1_init_93 ?_
  refine lv_iload hx hb dX1_init_96 (lv_at hl 0 rfl) ?_
  refine lv_aload hx hb dX1_init_98 (lv_at hl 1 rfl) ?_
  refine st_59 hx hb hH mq3 kq3 (Rg_in (Rg_c (x := 1) (a := 1) (b := 1) (by decide)) (by decide)) mq17 kq17 rfl dX1_init_100 (fun R20 H locs eR20 hH => ?_)
  have rra0 : R20 a0 = rl [(3, a4), (2, a3), (1, a2), (0, a1), (9, q10), (8, q8), (6, q5), (5, q3), (4, q1)] := by rw [eR20, u2_ne (ne_role ka0 kq3 (by decide))]; exact rra0
  have rrq3 : R20 q3 = rl [(1, q17), (0, q17)] := by rw [eR20]; exact rl_put rrq3
  have kk : KK L18 C18 I18 R20 [0, 2, 3, 4, 5, 6, 8, 16, 17, 18, 19, 20, 21, 22, 24, 25, 26, 32, 33, 34, 35, 36, 37, 38, 39, 40, 41, 42, 43, 44, 45, 46, 47, 48, 49, 50, 52, 53, 54, 55, 59, 60] := by rw [eR20]; exact kk.stR kq3 zr_59
  have old : Old L0 C0 (I0, J0, R0) a0 L18 C18 I18 J18 R20 := by rw [eR20]; exact old.stR (Or.inr nq3)
  refine lv_iinc (v := 2) (lv' := [(6, .int 2), (5, .ref q17), (0, .ref a0), (1, .ref a1), (2, .ref a2), (3, .ref a3), (4, .ref a4)]) hx hb dX1_init_101 hl (k := 0) rfl (by decide) (by decide) rfl (fun ls hl => ?_)
  refine lv_goto (tgt := 85) hx hb dX1_init_104 (by decide) ?_
  refine lv_iload hx hb dX1_init_85 (lv_at hl 0 rfl) ?_
  refine lv_bipush (v := 10) hx hb dX1_init_87 (by decide) ?_
  refine lv_icmp_gt (tgt := 107) hx hb dX1_init_89 (by decide) (fun q => absurd q (by decide)) (fun q => ?_)
  refine lv_aload_n hx hb dX1_init_92 rfl (lv_at hl 2 rfl) ?_
  refine gf_1_5 (b := q3) (by rw [rra0]; rfl) hx hb hts hown hH ma0 ka0 rfl kf_X1_17 dX1_init_93 ?_
  refine lv_iload hx hb dX1_init_96 (lv_at hl 0 rfl) ?_
  refine lv_aload hx hb dX1_init_98 (lv_at hl 1 rfl) ?_
  refine st_59 hx hb hH mq3 kq3 (Rg_in (Rg_c (x := 2) (a := 2) (b := 2) (by decide)) (by decide)) mq17 kq17 rfl dX1_init_100 (fun R21 H locs eR21 hH => ?_)
  have rra0 : R21 a0 = rl [(3, a4), (2, a3), (1, a2), (0, a1), (9, q10), (8, q8), (6, q5), (5, q3), (4, q1)] := by rw [eR21, u2_ne (ne_role ka0 kq3 (by decide))]; exact rra0
  have rrq3 : R21 q3 = rl [(2, q17), (1, q17), (0, q17)] := by rw [eR21]; exact rl_put rrq3
  have kk : KK L18 C18 I18 R21 [0, 2, 3, 4, 5, 6, 8, 16, 17, 18, 19, 20, 21, 22, 24, 25, 26, 32, 33, 34, 35, 36, 37, 38, 39, 40, 41, 42, 43, 44, 45, 46, 47, 48, 49, 50, 52, 53, 54, 55, 59, 60] := by rw [eR21]; exact kk.stR kq3 zr_59
  have old : Old L0 C0 (I0, J0, R0) a0 L18 C18 I18 J18 R21 := by rw [eR21]; exact old.stR (Or.inr nq3)
  refine lv_iinc (v := 3) (lv' := [(6, .int 3), (5, .ref q17), (0, .ref a0), (1, .ref a1), (2, .ref a2), (3, .ref a3), (4, .ref a4)]) hx hb dX1_init_101 hl (k := 0) rfl (by decide) (by decide) rfl (fun ls hl => ?_)
  refine lv_goto (tgt := 85) hx hb dX1_init_104 (by decide) ?_
  refine lv_iload hx hb dX1_init_85 (lv_at hl 0 rfl) ?_
  refine lv_bipush (v := 10) hx hb dX1_init_87 (by decide) ?_
  refine lv_icmp_gt (tgt := 107) hx hb dX1_init_89 (by decide) (fun q => absurd q (by decide)) (fun q => ?_)
  refine lv_aload_n hx hb dX1_init_92 rfl (lv_at hl 2 rfl) ?_
  refine gf_1_5 (b := q3) (by rw [rra0]; rfl) hx hb hts hown hH ma0 ka0 rfl kf_X1_17 dX1_init_93 ?_
  refine lv_iload hx hb dX1_init_96 (lv_at hl 0 rfl) ?_
  refine lv_aload hx hb dX1_init_98 (lv_at hl 1 rfl) ?_
  refine st_59 hx hb hH mq3 kq3 (Rg_in (Rg_c (x := 3) (a := 3) (b := 3) (by decide)) (by decide)) mq17 kq17 rfl dX1_init_100 (fun R22 H locs eR22 hH => ?_)
  have rra0 : R22 a0 = rl [(3, a4), (2, a3), (1, a2), (0, a1), (9, q10), (8, q8), (6, q5), (5, q3), (4, q1)] := by rw [eR22, u2_ne (ne_role ka0 kq3 (by decide))]; exact rra0
  have rrq3 : R22 q3 = rl [(3, q17), (2, q17), (1, q17), (0, q17)] := by rw [eR22]; exact rl_put rrq3
  have kk : KK L18 C18 I18 R22 [0, 2, 3, 4, 5, 6, 8, 16, 17, 18, 19, 20, 21, 22, 24, 25, 26, 32, 33, 34, 35, 36, 37, 38, 39, 40, 41, 42, 43, 44, 45, 46, 47, 48, 49, 50, 52, 53, 54, 55, 59, 60] := by rw [eR22]; exact kk.stR kq3 zr_59
  have old : Old L0 C0 (I0, J0, R0) a0 L18 C18 I18 J18 R22 := by rw [eR22]; exact old.stR (Or.inr nq3)
  refine lv_iinc (v := 4) (lv' := [(6, .int 4), (5, .ref q17), (0, .ref a0), (1, .ref a1), (2, .ref a2), (3, .ref a3), (4, .ref a4)]) hx hb dX1_init_101 hl (k := 0) rfl (by decide) (by decide) rfl (fun ls hl => ?_)
  refine lv_goto (tgt := 85) hx hb dX1_init_104 (by decide) ?_
  refine lv_iload hx hb dX1_init_85 (lv_at hl 0 rfl) ?_
  refine lv_bipush (v := 10) hx hb dX1_init_87 (by decide) ?_
  refine lv_icmp_gt (tgt := 107) hx hb dX1_init_89 (by decide) (fun q => absurd q (by decide)) (fun q => ?_)
  refine lv_aload_n hx hb dX1_init_92 rfl (lv_at hl 2 rfl) ?_
  refine gf_1_5 (b := q3) (by rw [rra0]; rfl) hx hb hts hown hH ma0 ka0 rfl kf_X1_17 dX1_init_93 ?_
  refine lv_iload hx hb dX1_init_96 (lv_at hl 0 rfl) ?_
  refine lv_aload hx hb dX1_init_98 (lv_at hl 1 rfl) ?_
  refine st_59 hx hb hH mq3 kq3 (Rg_in (Rg_c (x := 4) (a := 4) (b := 4) (by decide)) (by decide)) mq17 kq17 rfl dX1_init_100 (fun R23 H locs eR23 hH => ?_)
  have rra0 : R23 a0 = rl [(3, a4), (2, a3), (1, a2), (0, a1), (9, q10), (8, q8), (6, q5), (5, q3), (4, q1)] := by rw [eR23, u2_ne (ne_role ka0 kq3 (by decide))]; exact rra0
  have rrq3 : R23 q3 = rl [(4, q17), (3, q17), (2, q17), (1, q17), (0, q17)] := by rw [eR23]; exact rl_put rrq3
  have kk : KK L18 C18 I18 R23 [0, 2, 3, 4, 5, 6, 8, 16, 17, 18, 19, 20, 21, 22, 24, 25, 26, 32, 33, 34, 35, 36, 37, 38, 39, 40, 41, 42, 43, 44, 45, 46, 47, 48, 49, 50, 52, 53, 54, 55, 59, 60] := by rw [eR23]; exact kk.stR kq3 zr_59
  have old : Old L0 C0 (I0, J0, R0) a0 L18 C18 I18 J18 R23 := by rw [eR23]; exact old.stR (Or.inr nq3)
  refine lv_iinc (v := 5) (lv' := [(6, .int 5), (5, .ref q17), (0, .ref a0), (1, .ref a1), (2, .ref a2), (3, .ref a3), (4, .ref a4)]) hx hb dX1_init_101 hl (k := 0) rfl (by decide) (by decide) rfl (fun ls hl => ?_)
  refine lv_goto (tgt := 85) hx hb dX1_init_104 (by decide) ?_
  refine lv_iload hx hb dX1_init_85 (lv_at hl 0 rfl) ?_
  refine lv_bipush (v := 10) hx hb dX1_init_87 (by decide) ?_
  refine lv_icmp_gt (tgt := 107) hx hb dX1_init_89 (by decide) (fun q => absurd q (by decide)) (fun q => ?_)
  refine lv_aload_n hx hb dX1_init_92 rfl (lv_at hl 2 rfl) ?_
  refine gf_1_5 (b := q3) (by rw [rra0]; rfl) hx hb hts hown hH ma0 ka0 rfl kf_X1_17 dX1_init_93 ?_
  refine lv_iload hx hb dX1_init_96 (lv_at hl 0 rfl) ?_
  refine lv_aload hx hb dX1_init_98 (lv_at hl 1 rfl) ?_
  refine st_59 hx hb hH mq3 kq3 (Rg_in (Rg_c (x := 5) (a := 5) (b := 5) (by decide)) (by decide)) mq17 kq17 rfl dX1_init_100 (fun R24 H locs eR24 hH => ?_)
  have rra0 : R24 a0 = rl [(3, a4), (2, a3), (1, a2), (0, a1), (9, q10), (8, q8), (6, q5), (5, q3), (4, q1)] := by rw [eR24, u2_ne (ne_role ka0 kq3 (by decide))]; exact rra0
  have rrq3 : R24 q3 = rl [(5, q17), (4, q17), (3, q17), (2, q17), (1, q17), (0, q17)] := by rw [eR24]; exact rl_put rrq3
  have kk : KK L18 C18 I18 R24 [0, 2, 3, 4, 5, 6, 8, 16, 17, 18, 19, 20, 21, 22, 24, 25, 26, 32, 33, 34, 35, 36, 37, 38, 39, 40, 41, 42, 43, 44, 45, 46, 47, 48, 49, 50, 52, 53, 54, 55, 59, 60] := by rw [eR24]; exact kk.stR kq3 zr_59
  have old : Old L0 C0 (I0, J0, R0) a0 L18 C18 I18 J18 R24 := by rw [eR24]; exact old.stR (Or.inr nq3)
  refine lv_iinc (v := 6) (lv' := [(6, .int 6), (5, .ref q17), (0, .ref a0), (1, .ref a1), (2, .ref a2), (3, .ref a3), (4, .ref a4)]) hx hb dX1_init_101 hl (k := 0) rfl (by decide) (by decide) rfl (fun ls hl => ?_)
  refine lv_goto (tgt := 85) hx hb dX1_init_104 (by decide) ?_
  refine lv_iload hx hb dX1_init_85 (lv_at hl 0 rfl) ?_
  refine lv_bipush (v := 10) hx hb dX1_init_87 (by decide) ?_
  refine lv_icmp_gt (tgt := 107) hx hb dX1_init_89 (by decide) (fun q => absurd q (by decide)) (fun q => ?_)
  refine lv_aload_n hx hb dX1_init_92 rfl (lv_at hl 2 rfl) ?_
  refine gf_1_5 (b := q3) (by rw [rra0]; rfl) hx hb hts hown hH ma0 ka0 rfl kf_X1_17 dX1_init_93 ?_
  refine lv_iload hx hb dX1_init_96 (lv_at hl 0 rfl) ?_
  refine lv_aload hx hb dX1_init_98 (lv_at hl 1 rfl) ?_
  refine st_59 hx hb hH mq3 kq3 (Rg_in (Rg_c (x := 6) (a := 6) (b := 6) (by decide)) (by decide)) mq17 kq17 rfl dX1_init_100 (fun R25 H locs eR25 hH => ?_)
  have rra0 : R25 a0 = rl [(3, a4), (2, a3), (1, a2), (0, a1), (9, q10), (8, q8), (6, q5), (5, q3), (4, q1)] := by rw [eR25, u2_ne (ne_role ka0 kq3 (by decide))]; exact rra0
  have rrq3 : R25 q3 = rl [(6, q17), (5, q17), (4, q17), (3, q17), (2, q17), (1, q17), (0, q17)] := by rw [eR25]; exact rl_put rrq3
  have kk : KK L18 C18 I18 R25 [0, 2, 3, 4, 5, 6, 8, 16, 17, 18, 19, 20, 21, 22, 24, 25, 26, 32, 33, 34, 35, 36, 37, 38, 39, 40, 41, 42, 43, 44, 45, 46, 47, 48, 49, 50, 52, 53, 54, 55, 59, 60] := by rw [eR25]; exact kk.stR kq3 zr_59
  have old : Old L0 C0 (I0, J0, R0) a0 L18 C18 I18 J18 R25 := by rw [eR25]; exact old.stR (Or.inr nq3)
  refine lv_iinc (v := 7) (lv' := [(6, .int 7), (5, .ref q17), (0, .ref a0), (1, .ref a1), (2, .ref a2), (3, .ref a3), (4, .ref a4)]) hx hb dX1_init_101 hl (k := 0) rfl (by decide) (by decide) rfl (fun ls hl => ?_)
  refine lv_goto (tgt := 85) hx hb dX1_init_104 (by decide) ?_
  refine lv_iload hx hb dX1_init_85 (lv_at hl 0 rfl) ?_
  refine lv_bipush (v := 10) hx hb dX1_init_87 (by decide) ?_
  refine lv_icmp_gt (tgt := 107) hx hb dX1_init_89 (by decide) (fun q => absurd q (by decide)) (fun q => ?_)
  refine lv_aload_n hx hb dX1_init_92 rfl (lv_at hl 2 rfl) ?_
  refine gf_1_5 (b := q3) (by rw [rra0]; rfl) hx hb hts hown hH ma0 ka0 rfl kf_X1_17 dX1_init_93 ?_
  refine lv_iload hx hb dX1_init_96 (lv_at hl 0 rfl) ?_
  refine lv_aload hx hb dX1_init_98 (lv_at hl 1 rfl) ?_
  refine st_59 hx hb hH mq3 kq3 (Rg_in (Rg_c (x := 7) (a := 7) (b := 7) (by decide)) (by decide)) mq17 kq17 rfl dX1_init_100 (fun R26 H locs eR26 hH => ?_)
  have rra0 : R26 a0 = rl [(3, a4), (2, a3), (1, a2), (0, a1), (9, q10), (8, q8), (6, q5), (5, q3), (4, q1)] := by rw [eR26, u2_ne (ne_role ka0 kq3 (by decide))]; exact rra0
  have rrq3 : R26 q3 = rl [(7, q17), (6, q17), (5, q17), (4, q17), (3, q17), (2, q17), (1, q17), (0, q17)] := by rw [eR26]; exact rl_put rrq3
  have kk : KK L18 C18 I18 R26 [0, 2, 3, 4, 5, 6, 8, 16, 17, 18, 19, 20, 21, 22, 24, 25, 26, 32, 33, 34, 35, 36, 37, 38, 39, 40, 41, 42, 43, 44, 45, 46, 47, 48, 49, 50, 52, 53, 54, 55, 59, 60] := by rw [eR26]; exact kk.stR kq3 zr_59
  have old : Old L0 C0 (I0, J0, R0) a0 L18 C18 I18 J18 R26 := by rw [eR26]; exact old.stR (Or.inr nq3)
  refine lv_iinc (v := 8) (lv' := [(6, .int 8), (5, .ref q17), (0, .ref a0), (1, .ref a1), (2, .ref a2), (3, .ref a3), (4, .ref a4)]) hx hb dX1_init_101 hl (k := 0) rfl (by decide) (by decide) rfl (fun ls hl => ?_)
  refine lv_goto (tgt := 85) hx hb dX1_init_104 (by decide) ?_
  refine lv_iload hx hb dX1_init_85 (lv_at hl 0 rfl) ?_
  refine lv_bipush (v := 10) hx hb dX1_init_87 (by decide) ?_
  refine lv_icmp_gt (tgt := 107) hx hb dX1_init_89 (by decide) (fun q => absurd q (by decide)) (fun q => ?_)
  refine lv_aload_n hx hb dX1_init_92 rfl (lv_at hl 2 rfl) ?_
  refine gf_1_5 (b := q3) (by rw [rra0]; rfl) hx hb hts hown hH ma0 ka0 rfl kf_X1_17 dX1_init_93 ?_
  refine lv_iload hx hb dX1_init_96 (lv_at hl 0 rfl) ?_
  refine lv_aload hx hb dX1_init_98 (lv_at hl 1 rfl) ?_
  refine st_59 hx hb hH mq3 kq3 (Rg_in (Rg_c (x := 8) (a := 8) (b := 8) (by decide)) (by decide)) mq17 kq17 rfl dX1_init_100 (fun R27 H locs eR27 hH => ?_)
  have rra0 : R27 a0 = rl [(3, a4), (2, a3), (1, a2), (0, a1), (9, q10), (8, q8), (6, q5), (5, q3), (4, q1)] := by rw [eR27, u2_ne (ne_role ka0 kq3 (by decide))]; exact rra0
  have rrq3 : R27 q3 = rl [(8, q17), (7, q17), (6, q17), (5, q17), (4, q17), (3, q17), (2, q17), (1, q17), (0, q17)] := by rw [eR27]; exact rl_put rrq3
  have kk : KK L18 C18 I18 R27 [0, 2, 3, 4, 5, 6, 8, 16, 17, 18, 19, 20, 21, 22, 24, 25, 26, 32, 33, 34, 35, 36, 37, 38, 39, 40, 41, 42, 43, 44, 45, 46, 47, 48, 49, 50, 52, 53, 54, 55, 59, 60] := by rw [eR27]; exact kk.stR kq3 zr_59
  have old : Old L0 C0 (I0, J0, R0) a0 L18 C18 I18 J18 R27 := by rw [eR27]; exact old.stR (Or.inr nq3)
  refine lv_iinc (v := 9) (lv' := [(6, .int 9), (5, .ref q17), (0, .ref a0), (1, .ref a1), (2, .ref a2), (3, .ref a3), (4, .ref a4)]) hx hb dX1_init_101 hl (k := 0) rfl (by decide) (by decide) rfl (fun ls hl => ?_)
  refine lv_goto (tgt := 85) hx hb dX1_init_104 (by decide) ?_
  refine lv_iload hx hb dX1_init_85 (lv_at hl 0 rfl) ?_
  refine lv_bipush (v := 10) hx hb dX1_init_87 (by decide) ?_
  refine lv_icmp_gt (tgt := 107) hx hb dX1_init_89 (by decide) (fun q => absurd q (by decide)) (fun q => ?_)
  refine lv_aload_n hx hb dX1_init_92 rfl (lv_at hl 2 rfl) ?_
  refine gf_1_5 (b := q3) (by rw [rra0]; rfl) hx hb hts hown hH ma0 ka0 rfl kf_X1_17 dX1_init_93 ?_
  refine lv_iload hx hb dX1_init_96 (lv_at hl 0 rfl) ?_
  refine lv_aload hx hb dX1_init_98 (lv_at hl 1 rfl) ?_
  refine st_59 hx hb hH mq3 kq3 (Rg_in (Rg_c (x := 9) (a := 9) (b := 9) (by decide)) (by decide)) mq17 kq17 rfl dX1_init_100 (fun R28 H locs eR28 hH => ?_)
  have rra0 : R28 a0 = rl [(3, a4), (2, a3), (1, a2), (0, a1), (9, q10), (8, q8), (6, q5), (5, q3), (4, q1)] := by rw [eR28, u2_ne (ne_role ka0 kq3 (by decide))]; exact rra0
  have rrq3 : R28 q3 = rl [(9, q17), (8, q17), (7, q17), (6, q17), (5, q17), (4, q17), (3, q17), (2, q17), (1, q17), (0, q17)] := by rw [eR28]; exact rl_put rrq3
  have kk : KK L18 C18 I18 R28 [0, 2, 3, 4, 5, 6, 8, 16, 17, 18, 19, 20, 21, 22, 24, 25, 26, 32, 33, 34, 35, 36, 37, 38, 39, 40, 41, 42, 43, 44, 45, 46, 47, 48, 49, 50, 52, 53, 54, 55, 59, 60] := by rw [eR28]; exact kk.stR kq3 zr_59
  have old : Old L0 C0 (I0, J0, R0) a0 L18 C18 I18 J18 R28 := by rw [eR28]; exact old.stR (Or.inr nq3)
  refine lv_iinc (v := 10) (lv' := [(6, .int 10), (5, .ref q17), (0, .ref a0), (1, .ref a1), (2, .ref a2), (3, .ref a3), (4, .ref a4)]) hx hb dX1_init_101 hl (k := 0) rfl (by decide) (by decide) rfl (fun ls hl => ?_)
  refine lv_goto (tgt := 85) hx hb dX1_init_104 (by decide) ?_
  refine lv_iload hx hb dX1_init_85 (lv_at hl 0 rfl) ?_
  refine lv_bipush (v := 10) hx hb dX1_init_87 (by decide) ?_
  refine lv_icmp_gt (tgt := 107) hx hb dX1_init_89 (by decide) (fun q => absurd q (by decide)) (fun q => ?_)
  refine lv_aload_n hx hb dX1_init_92 rfl (lv_at hl 2 rfl) ?_
  refine gf_1_5 (b := q3) (by rw [rra0]; rfl) hx hb hts hown hH ma0 ka0 rfl kf_X1_17 dX1_init_93 ?_
  refine lv_iload hx hb dX1_init_96 (lv_at hl 0 rfl) ?_
  refine lv_aload hx hb dX1_init_98 (lv_at hl 1 rfl) ?_
  refine st_59 hx hb hH mq3 kq3 (Rg_in (Rg_c (x := 10) (a := 10) (b := 10) (by decide)) (by decide)) mq17 kq17 rfl dX1_init_100 (fun R29 H locs eR29 hH => ?_)
  have rra0 : R29 a0 = rl [(3, a4), (2, a3), (1, a2), (0, a1), (9, q10), (8, q8), (6, q5), (5, q3), (4, q1)] := by rw [eR29, u2_ne (ne_role ka0 kq3 (by decide))]; exact rra0
  have rrq3 : R29 q3 = rl [(10, q17), (9, q17), (8, q17), (7, q17), (6, q17), (5, q17), (4, q17), (3, q17), (2, q17), (1, q17), (0, q17)] := by rw [eR29]; exact rl_put rrq3
  have kk : KK L18 C18 I18 R29 [0, 2, 3, 4, 5, 6, 8, 16, 17, 18, 19, 20, 21, 22, 24, 25, 26, 32, 33, 34, 35, 36, 37, 38, 39, 40, 41, 42, 43, 44, 45, 46, 47, 48, 49, 50, 52, 53, 54, 55, 59, 60] := by rw [eR29]; exact kk.stR kq3 zr_59
  have old : Old L0 C0 (I0, J0, R0) a0 L18 C18 I18 J18 R29 := by rw [eR29]; exact old.stR (Or.inr nq3)
  refine lv_iinc (v := 11) (lv' := [(6, .int 11), (5, .ref q17), (0, .ref a0), (1, .ref a1), (2, .ref a2), (3, .ref a3), (4, .ref a4)]) hx hb dX1_init_101 hl (k := 0) rfl (by decide) (by decide) rfl (fun ls hl => ?_)
  refine lv_goto (tgt := 85) hx hb dX1_init_104 (by decide) ?_
  refine lv_iload hx hb dX1_init_85 (lv_at hl 0 rfl) ?_
  refine lv_bipush (v := 10) hx hb dX1_init_87 (by decide) ?_
  refine lv_icmp_gt (tgt := 107) hx hb dX1_init_89 (by decide) (fun q => ?_) (fun q => absurd (by decide) q)
  have hI30 : ∀ j, j < rN 51 → rLo 51 j ≤ (I18 q3 j).toInt ∧ (I18 q3 j).toInt ≤ rHi 51 j ∧ (rX 51 = true → (I18 q3 j).toInt ≤ 3 ∨ (I18 q3 j).toInt = 9) := by rw [riq3]; decide +kernel
  have hR30 : ∀ j, j < rN 51 → rR 51 j ≠ 0 → ∃ b, b ∈ L18 ∧ b ≠ q3 ∧ R29 q3 j = some b ∧ C18 b + 1 = rR 51 j := by
    intro j hj hn
    rw [rrq3]
    have hj : j < 11 := hj
    rcases (show j = 0 ∨ j = 1 ∨ j = 2 ∨ j = 3 ∨ j = 4 ∨ j = 5 ∨ j = 6 ∨ j = 7 ∨ j = 8 ∨ j = 9 ∨ j = 10 by omega) with rfl | rfl | rfl | rfl | rfl | rfl | rfl | rfl | rfl | rfl | rfl
    · exact ⟨q17, mq17, ne_role kq17 kq3 (by decide), rfl, by rw [kq17]; rfl⟩
    · exact ⟨q17, mq17, ne_role kq17 kq3 (by decide), rfl, by rw [kq17]; rfl⟩
    · exact ⟨q17, mq17, ne_role kq17 kq3 (by decide), rfl, by rw [kq17]; rfl⟩
    · exact ⟨q17, mq17, ne_role kq17 kq3 (by decide), rfl, by rw [kq17]; rfl⟩
    · exact ⟨q17, mq17, ne_role kq17 kq3 (by decide), rfl, by rw [kq17]; rfl⟩
    · exact ⟨q17, mq17, ne_role kq17 kq3 (by decide), rfl, by rw [kq17]; rfl⟩
    · exact ⟨q17, mq17, ne_role kq17 kq3 (by decide), rfl, by rw [kq17]; rfl⟩
    · exact ⟨q17, mq17, ne_role kq17 kq3 (by decide), rfl, by rw [kq17]; rfl⟩
    · exact ⟨q17, mq17, ne_role kq17 kq3 (by decide), rfl, by rw [kq17]; rfl⟩
    · exact ⟨q17, mq17, ne_role kq17 kq3 (by decide), rfl, by rw [kq17]; rfl⟩
    · exact ⟨q17, mq17, ne_role kq17 kq3 (by decide), rfl, by rw [kq17]; rfl⟩
  have hH := hH.rel (q := q3) (r := 51) (by rw [kq3]; rfl) (by rw [kq3]; rfl)
  have kk := kk.rel mq3 kq3 (Or.inr ⟨by decide, by decide⟩) hI30 hR30 (Or.inr rfl) (fun h => absurd h (by decide)) (by decide) (by decide)
  have old := old.rel (q := q3) (r := 51) (Or.inr nq3)
  obtain ⟨C30, eC30⟩ : ∃ z, z = va_up C18 q3 51 := ⟨_, rfl⟩
  rw [← eC30] at hH kk old
  have ka0 : C30 a0 = 17 := by rw [eC30, va_up_ne _ _ (ne_role ka0 kq3 (by decide))]; exact ka0
  have ka1 : C30 a1 = 6 := by rw [eC30, va_up_ne _ _ (ne_role ka1 kq3 (by decide))]; exact ka1
  have ka2 : C30 a2 = 2 := by rw [eC30, va_up_ne _ _ (ne_role ka2 kq3 (by decide))]; exact ka2
  have ka3 : C30 a3 = 3 := by rw [eC30, va_up_ne _ _ (ne_role ka3 kq3 (by decide))]; exact ka3
  have ka4 : C30 a4 = 4 := by rw [eC30, va_up_ne _ _ (ne_role ka4 kq3 (by decide))]; exact ka4
  have kq1 : C30 q1 = 50 := by rw [eC30, va_up_ne _ _ (ne_role kq1 kq3 (by decide))]; exact kq1
  have kq5 : C30 q5 = 52 := by rw [eC30, va_up_ne _ _ (ne_role kq5 kq3 (by decide))]; exact kq5
  have kq8 : C30 q8 = 53 := by rw [eC30, va_up_ne _ _ (ne_role kq8 kq3 (by decide))]; exact kq8
  have kq10 : C30 q10 = 53 := by rw [eC30, va_up_ne _ _ (ne_role kq10 kq3 (by decide))]; exact kq10
  have kq17 : C30 q17 = 5 := by rw [eC30, va_up_ne _ _ (ne_role kq17 kq3 (by decide))]; exact kq17
  have kq3 : C30 q3 = 51 := by rw [eC30, va_up_self]
  have hI31 : ∀ j, j < rN 1 → rLo 1 j ≤ (I18 a0 j).toInt ∧ (I18 a0 j).toInt ≤ rHi 1 j ∧ (rX 1 = true → (I18 a0 j).toInt ≤ 3 ∨ (I18 a0 j).toInt = 9) := by rw [ria0]; decide +kernel
  have hR31 : ∀ j, j < rN 1 → rR 1 j ≠ 0 → ∃ b, b ∈ L18 ∧ b ≠ a0 ∧ R29 a0 j = some b ∧ C30 b + 1 = rR 1 j := by
    intro j hj hn
    rw [rra0]
    have hj : j < 11 := hj
    rcases (show j = 0 ∨ j = 1 ∨ j = 2 ∨ j = 3 ∨ j = 4 ∨ j = 5 ∨ j = 6 ∨ j = 7 ∨ j = 8 ∨ j = 9 ∨ j = 10 by omega) with rfl | rfl | rfl | rfl | rfl | rfl | rfl | rfl | rfl | rfl | rfl
    · exact ⟨a1, ma1, ne_role ka1 ka0 (by decide), rfl, by rw [ka1]; rfl⟩
    · exact ⟨a2, ma2, ne_role ka2 ka0 (by decide), rfl, by rw [ka2]; rfl⟩
    · exact ⟨a3, ma3, ne_role ka3 ka0 (by decide), rfl, by rw [ka3]; rfl⟩
    · exact ⟨a4, ma4, ne_role ka4 ka0 (by decide), rfl, by rw [ka4]; rfl⟩
    · exact ⟨q1, mq1, ne_role kq1 ka0 (by decide), rfl, by rw [kq1]; rfl⟩
    · exact ⟨q3, mq3, ne_role kq3 ka0 (by decide), rfl, by rw [kq3]; rfl⟩
    · exact ⟨q5, mq5, ne_role kq5 ka0 (by decide), rfl, by rw [kq5]; rfl⟩
    · exact absurd rfl hn
    · exact ⟨q8, mq8, ne_role kq8 ka0 (by decide), rfl, by rw [kq8]; rfl⟩
    · exact ⟨q10, mq10, ne_role kq10 ka0 (by decide), rfl, by rw [kq10]; rfl⟩
    · exact absurd rfl hn
  have hH := hH.rel (q := a0) (r := 1) (by rw [ka0]; rfl) (by rw [ka0]; rfl)
  have kk := kk.rel ma0 ka0 (Or.inl ⟨by decide, by decide⟩) hI31 hR31 (Or.inr rfl) (fun h => absurd h (by decide)) (by decide) (by decide)
  have old := old.rel (q := a0) (r := 1) (Or.inl rfl)
  obtain ⟨C31, eC31⟩ : ∃ z, z = va_up C30 a0 1 := ⟨_, rfl⟩
  rw [← eC31] at hH kk old
  have ka1 : C31 a1 = 6 := by rw [eC31, va_up_ne _ _ (ne_role ka1 ka0 (by decide))]; exact ka1
  have ka2 : C31 a2 = 2 := by rw [eC31, va_up_ne _ _ (ne_role ka2 ka0 (by decide))]; exact ka2
  have ka3 : C31 a3 = 3 := by rw [eC31, va_up_ne _ _ (ne_role ka3 ka0 (by decide))]; exact ka3
  have ka4 : C31 a4 = 4 := by rw [eC31, va_up_ne _ _ (ne_role ka4 ka0 (by decide))]; exact ka4
  have kq1 : C31 q1 = 50 := by rw [eC31, va_up_ne _ _ (ne_role kq1 ka0 (by decide))]; exact kq1
  have kq3 : C31 q3 = 51 := by rw [eC31, va_up_ne _ _ (ne_role kq3 ka0 (by decide))]; exact kq3
  have kq5 : C31 q5 = 52 := by rw [eC31, va_up_ne _ _ (ne_role kq5 ka0 (by decide))]; exact kq5
  have kq8 : C31 q8 = 53 := by rw [eC31, va_up_ne _ _ (ne_role kq8 ka0 (by decide))]; exact kq8
  have kq10 : C31 q10 = 53 := by rw [eC31, va_up_ne _ _ (ne_role kq10 ka0 (by decide))]; exact kq10
  have kq17 : C31 q17 = 5 := by rw [eC31, va_up_ne _ _ (ne_role kq17 ka0 (by decide))]; exact kq17
  have ka0 : C31 a0 = 1 := by rw [eC31, va_up_self]
  refine W.widen (k := 8) (n := 79) (by decide) (by decide) ?_
  exact ret _ _ _ _ _ _ _ _ _ dX1_init_107 hH ⟨(kk.wS rfl), old, ka0⟩
set_option maxHeartbeats 4000000 in
set_option maxRecDepth 100000 in
theorem c_X7_init {l : Launch} {D : va_G} {cy : Nat → ClassId} {L0 : List Nat} {C0 : Nat → Nat} {b0 : Nat} {I0 : hI} {J0 : hJ} {R0 : hR} {S : List Nat} {a0 : Nat} (kk : KK L0 C0 I0 R0 (23 :: S)) (ma0 : a0 ∈ L0) (ka0 : C0 a0 = 23) (ria0 : I0 a0 = il []) (rra0 : R0 a0 = rl []) : CA l yX7_init cX7_init 2 2 19 102 D cy L0 C0 b0 [.ref a0] (I0, J0, R0) (fun q => KK q.1 q.2.1 q.2.2.1 q.2.2.2.2 (7 :: 56 :: 5 :: 55 :: 54 :: 21 :: 5 :: 55 :: 54 :: 21 :: 5 :: 55 :: 54 :: 21 :: 5 :: 55 :: 54 :: 21 :: 5 :: 55 :: 54 :: 21 :: 5 :: 55 :: 54 :: 21 :: 58 :: 23 :: S) ∧ Old L0 C0 (I0, J0, R0) a0 q.1 q.2.1 q.2.2.1 q.2.2.2.1 q.2.2.2.2 ∧ q.2.1 a0 = 7) := by
  refine CA.mk (plainFor_of_name (by decide)) (Nat.le_of_ble_eq_true rfl) ?_
  intro p e s m args below meth c ls Q hF hin ret hH hl
  obtain ⟨hx, hb, -, hml, hown, hts, -⟩ := hF
  have hl : lv_has ls 2 [(0, .ref a0)] := hl
  have hH : Hp D cy L0 C0 b0 s s.heap I0 J0 R0 s.heap [] := hH
  have old : Old L0 C0 (I0, J0, R0) a0 L0 C0 I0 J0 R0 := Old.rf
  have hS0 := kk.2.2.2.1
  refine lv_aload_n hx hb dX7_init_0 rfl (lv_at hl 0 rfl) ?_
  refine W.objInit hx hb hown (hts _ km_X7_3) (hts _ ki_objectInit) (hts _ kc_objectInit) rfl (by rw [hml]; exact hl.1) rfl dX7_init_1 (Nat.le_of_ble_eq_true rfl) (Nat.le_of_ble_eq_true rfl) ?_
  refine W.eq (g2 := F0 m 4 ls []) rfl ?_
  refine lv_aload_n hx hb dX7_init_4 rfl (lv_at hl 0 rfl) ?_
  refine lv_bipush (v := 6) hx hb dX7_init_5 (by decide) ?_
  refine hNewQ (k := 3) (r := 58) (N := 6) hx hb hts hown hH kcl_X7_9 hH.2.2.2.2.2.2.1.1 rfl (eN_M rfl rfl) (by decide) (by decide) (by decide) (by decide) (by decide) dX7_init_7 (fun q1 L1 C1 I1 J1 R1 H g1 eI1 eJ1 eR1 hH => ?_)
  have nq1 : q1 ∉ L0 := fun h => g1.2.2 (old q1 h).1
  have rra0 : R1 a0 = rl [] := by rw [eR1, va_up_ne _ _ (g1.ne ma0)]; exact rra0
  have ria0 : I1 a0 = il [] := by rw [eI1, va_up_ne _ _ (g1.ne ma0)]; exact ria0
  have ka0 := g1.role ma0 ka0
  have ma0 := g1.mem ma0
  have mq1 := g1.new
  have kq1 := g1.at
  have rrq1 : R1 q1 = rl [] := by rw [eR1, va_up_self]; rfl
  have riq1 : I1 q1 = il [] := by rw [eI1, va_up_self]; rfl
  have kk := kk.new g1 eI1 eR1 zz_58 zr_58 (Or.inl rfl) (by decide)
  have old := old.new g1 eI1 eJ1 eR1
  refine pf_7_0 hx hb hts hown hH hin rfl ma0 ka0 rfl kf_X7_11 dX7_init_10 (fun R2 H locs eR2 hH => ?_)
  have rrq1 : R2 q1 = rl [] := by rw [eR2, u2_ne (ne_role kq1 ka0 (by decide))]; exact rrq1
  have rra0 : R2 a0 = rl [(0, q1)] := by rw [eR2]; exact rl_put rra0
  have kk : KK L1 C1 I1 R2 (58 :: 23 :: S) := by rw [eR2]; exact kk.stR ka0 zr_23
  have old : Old L0 C0 (I0, J0, R0) a0 L1 C1 I1 J1 R2 := by rw [eR2]; exact old.stR (Or.inl rfl)
  refine lv_aload_n hx hb dX7_init_13 rfl (lv_at hl 0 rfl) ?_
  refine lv_iconst (v := 0) hx hb dX7_init_14 (by decide) ?_
  refine pf_7_1 hx hb hts hown hH ma0 ka0 rfl kf_X7_17 dX7_init_15 (fun I3 H locs eI3 hH => ?_)
  have riq1 : I3 q1 = il [] := by rw [eI3, u2_ne (ne_role kq1 ka0 (by decide))]; exact riq1
  have ria0 : I3 a0 = il [(1, 0)] := by rw [eI3]; exact il_put ria0
  have kk : KK L1 C1 I3 R2 (58 :: 23 :: S) := by rw [eI3]; exact kk.stI ka0 ⟨by decide, by decide⟩
  have old : Old L0 C0 (I0, J0, R0) a0 L1 C1 I3 J1 R2 := by rw [eI3]; exact old.stI (Or.inl rfl)
  refine lv_iconst (v := 0) hx hb dX7_init_18 (by decide) ?_
  refine lv_istore_n (lv' := [(1, .int 0), (0, .ref a0)]) hx hb dX7_init_19 rfl hl (by decide) rfl (fun ls hl => ?_)
  refine lv_iload_n hx hb dX7_init_20 rfl (lv_at hl 0 rfl) ?_
  refine lv_bipush (v := 6) hx hb dX7_init_21 (by decide) ?_
  refine lv_icmp_ge (tgt := 45) hx hb dX7_init_23 (by decide) (fun q => absurd q (by decide)) (fun q => ?_)
  refine lv_aload_n hx hb dX7_init_26 rfl (lv_at hl 1 rfl) ?_
  refine gf_7_0 (b := q1) (by rw [rra0]; rfl) hx hb hts hown hH ma0 ka0 rfl kf_X7_11 dX7_init_27 ?_
  refine lv_iload_n hx hb dX7_init_30 rfl (lv_at hl 0 rfl) ?_
  refine hNew (ci := 5) (N := 8) hx hb hts hown hH inX5 tyX5_ok rfl (by decide) rfl df_5 kcl_X7_9 kinst_X5 kini_X5 (by decide) (by decide) dX7_init_31 (fun q4 L4 C4 I4 J4 R4 H g4 eI4 eJ4 eR4 hH => ?_)
  have nq4 : q4 ∉ L0 := fun h => g4.2.2 (old q4 h).1
  have rra0 : R4 a0 = rl [(0, q1)] := by rw [eR4, va_up_ne _ _ (g4.ne ma0)]; exact rra0
  have ria0 : I4 a0 = il [(1, 0)] := by rw [eI4, va_up_ne _ _ (g4.ne ma0)]; exact ria0
  have ka0 := g4.role ma0 ka0
  have ma0 := g4.mem ma0
  have rrq1 : R4 q1 = rl [] := by rw [eR4, va_up_ne _ _ (g4.ne mq1)]; exact rrq1
  have riq1 : I4 q1 = il [] := by rw [eI4, va_up_ne _ _ (g4.ne mq1)]; exact riq1
  have kq1 := g4.role mq1 kq1
  have mq1 := g4.mem mq1
  have mq4 := g4.new
  have kq4 := g4.at
  have rrq4 : R4 q4 = rl [] := by rw [eR4, va_up_self]; rfl
  have riq4 : I4 q4 = il [] := by rw [eI4, va_up_self]; rfl
  have kk := kk.new g4 eI4 eR4 zz_21 zr_21 (Or.inl rfl) (by decide)
  have old := old.new g4 eI4 eJ4 eR4
  refine lv_dup hx hb dX7_init_34 rfl ?_
  refine afA (va_runIN (As := []) (rest := [.ref q4, .int 0, .ref q1]) ⟨hx, hb, hml, hown, hts⟩ (c_X5_init kk mq4 kq4 riq4 rrq4) ⟨va_cnB 0 hts (wG_code kc_yX5_init) rfl rfl rfl (hH.2.2.2.2.2.1 _ kn_X7_21) (hts _ kini_X5) ⟨by decide, by decide, by decide +kernel⟩ ⟨by decide, by decide⟩, rfl, hts _ ki_yX5_init⟩ (preS hH) rfl rfl hl.1 rfl (lv_room (Nat.le_of_ble_eq_true rfl)) dX7_init_35 ⟨by decide, by decide⟩) hH (fun L5 C5 I5 J5 R5 H locs hp hH => ?_)
  obtain ⟨kk, od5, kq5⟩ := hp
  have ne5 : a0 ≠ q4 := ne_role ka0 kq4 (by decide)
  have rra0 : R5 a0 = rl [(0, q1)] := ((od5 a0 ma0).2 ne5).2.2.2.trans rra0
  have ria0 : I5 a0 = il [(1, 0)] := ((od5 a0 ma0).2 ne5).2.1.trans ria0
  have ka0 : C5 a0 = 23 := ((od5 a0 ma0).2 ne5).1.trans ka0
  have ma0 := (od5 a0 ma0).1
  have ne5 : q1 ≠ q4 := ne_role kq1 kq4 (by decide)
  have rrq1 : R5 q1 = rl [] := ((od5 q1 mq1).2 ne5).2.2.2.trans rrq1
  have riq1 : I5 q1 = il [] := ((od5 q1 mq1).2 ne5).2.1.trans riq1
  have kq1 : C5 q1 = 58 := ((od5 q1 mq1).2 ne5).1.trans kq1
  have mq1 := (od5 q1 mq1).1
  have kq4 : C5 q4 = 5 := kq5
  have mq4 := (od5 q4 mq4).1
  have old := old.ctor od5 nq4
  refine st_58 hx hb hH mq1 kq1 (Rg_in (Rg_c (x := 0) (a := 0) (b := 0) (by decide)) (by decide)) mq4 kq4 rfl dX7_init_38 (fun R6 H locs eR6 hH => ?_)
  have rra0 : R6 a0 = rl [(0, q1)] := by rw [eR6, u2_ne (ne_role ka0 kq1 (by decide))]; exact rra0
  have rrq1 : R6 q1 = rl [(0, q4)] := by rw [eR6]; exact rl_put rrq1
  have kk : KK L5 C5 I5 R6 (5 :: 55 :: 54 :: 21 :: 58 :: 23 :: S) := by rw [eR6]; exact kk.stR kq1 zr_58
  have old : Old L0 C0 (I0, J0, R0) a0 L5 C5 I5 J5 R6 := by rw [eR6]; exact old.stR (Or.inr nq1)
  refine lv_iinc (v := 1) (lv' := [(1, .int 1), (0, .ref a0)]) hx hb dX7_init_39 hl (k := 0) rfl (by decide) (by decide) rfl (fun ls hl => ?_)
  refine lv_goto (tgt := 20) hx hb dX7_init_42 (by decide) ?_
  refine lv_iload_n hx hb dX7_init_20 rfl (lv_at hl 0 rfl) ?_
  refine lv_bipush (v := 6) hx hb dX7_init_21 (by decide) ?_
  refine lv_icmp_ge (tgt := 45) hx hb dX7_init_23 (by decide) (fun q => absurd q (by decide)) (fun q => ?_)
  refine lv_aload_n hx hb dX7_init_26 rfl (lv_at hl 1 rfl) ?_
  refine gf_7_0 (b := q1) (by rw [rra0]; rfl) hx hb hts hown hH ma0 ka0 rfl kf_X7_11 dX7_init_27 ?_
  refine lv_iload_n hx hb dX7_init_30 rfl (lv_at hl 0 rfl) ?_
  refine hNew (ci := 5) (N := 8) hx hb hts hown hH inX5 tyX5_ok rfl (by decide) rfl df_5 kcl_X7_9 kinst_X5 kini_X5 (by decide) (by decide) dX7_init_31 (fun q7 L7 C7 I7 J7 R7 H g7 eI7 eJ7 eR7 hH => ?_)
  have nq7 : q7 ∉ L0 := fun h => g7.2.2 (old q7 h).1
  have rra0 : R7 a0 = rl [(0, q1)] := by rw [eR7, va_up_ne _ _ (g7.ne ma0)]; exact rra0
  have ria0 : I7 a0 = il [(1, 0)] := by rw [eI7, va_up_ne _ _ (g7.ne ma0)]; exact ria0
  have ka0 := g7.role ma0 ka0
  have ma0 := g7.mem ma0
  have rrq1 : R7 q1 = rl [(0, q4)] := by rw [eR7, va_up_ne _ _ (g7.ne mq1)]; exact rrq1
  have riq1 : I7 q1 = il [] := by rw [eI7, va_up_ne _ _ (g7.ne mq1)]; exact riq1
  have kq1 := g7.role mq1 kq1
  have mq1 := g7.mem mq1
  have kq4 := g7.role mq4 kq4
  have mq4 := g7.mem mq4
  have mq7 := g7.new
  have kq7 := g7.at
  have rrq7 : R7 q7 = rl [] := by rw [eR7, va_up_self]; rfl
  have riq7 : I7 q7 = il [] := by rw [eI7, va_up_self]; rfl
  have kk := kk.new g7 eI7 eR7 zz_21 zr_21 (Or.inl rfl) (by decide)
  have old := old.new g7 eI7 eJ7 eR7
  refine lv_dup hx hb dX7_init_34 rfl ?_
  refine afA (va_runIN (As := []) (rest := [.ref q7, .int 1, .ref q1]) ⟨hx, hb, hml, hown, hts⟩ (c_X5_init kk mq7 kq7 riq7 rrq7) ⟨va_cnB 0 hts (wG_code kc_yX5_init) rfl rfl rfl (hH.2.2.2.2.2.1 _ kn_X7_21) (hts _ kini_X5) ⟨by decide, by decide, by decide +kernel⟩ ⟨by decide, by decide⟩, rfl, hts _ ki_yX5_init⟩ (preS hH) rfl rfl hl.1 rfl (lv_room (Nat.le_of_ble_eq_true rfl)) dX7_init_35 ⟨by decide, by decide⟩) hH (fun L8 C8 I8 J8 R8 H locs hp hH => ?_)
  obtain ⟨kk, od8, kq8⟩ := hp
  have ne8 : a0 ≠ q7 := ne_role ka0 kq7 (by decide)
  have rra0 : R8 a0 = rl [(0, q1)] := ((od8 a0 ma0).2 ne8).2.2.2.trans rra0
  have ria0 : I8 a0 = il [(1, 0)] := ((od8 a0 ma0).2 ne8).2.1.trans ria0
  have ka0 : C8 a0 = 23 := ((od8 a0 ma0).2 ne8).1.trans ka0
  have ma0 := (od8 a0 ma0).1
  have ne8 : q1 ≠ q7 := ne_role kq1 kq7 (by decide)
  have rrq1 : R8 q1 = rl [(0, q4)] := ((od8 q1 mq1).2 ne8).2.2.2.trans rrq1
  have riq1 : I8 q1 = il [] := ((od8 q1 mq1).2 ne8).2.1.trans riq1
  have kq1 : C8 q1 = 58 := ((od8 q1 mq1).2 ne8).1.trans kq1
  have mq1 := (od8 q1 mq1).1
  have ne8 : q4 ≠ q7 := ne_role kq4 kq7 (by decide)
  have kq4 : C8 q4 = 5 := ((od8 q4 mq4).2 ne8).1.trans kq4
  have mq4 := (od8 q4 mq4).1
  have kq7 : C8 q7 = 5 := kq8
  have mq7 := (od8 q7 mq7).1
  have old := old.ctor od8 nq7
  refine st_58 hx hb hH mq1 kq1 (Rg_in (Rg_c (x := 1) (a := 1) (b := 1) (by decide)) (by decide)) mq7 kq7 rfl dX7_init_38 (fun R9 H locs eR9 hH => ?_)
  have rra0 : R9 a0 = rl [(0, q1)] := by rw [eR9, u2_ne (ne_role ka0 kq1 (by decide))]; exact rra0
  have rrq1 : R9 q1 = rl [(1, q7), (0, q4)] := by rw [eR9]; exact rl_put rrq1
  have kk : KK L8 C8 I8 R9 (5 :: 55 :: 54 :: 21 :: 5 :: 55 :: 54 :: 21 :: 58 :: 23 :: S) := by rw [eR9]; exact kk.stR kq1 zr_58
  have old : Old L0 C0 (I0, J0, R0) a0 L8 C8 I8 J8 R9 := by rw [eR9]; exact old.stR (Or.inr nq1)
  refine lv_iinc (v := 2) (lv' := [(1, .int 2), (0, .ref a0)]) hx hb dX7_init_39 hl (k := 0) rfl (by decide) (by decide) rfl (fun ls hl => ?_)
  refine lv_goto (tgt := 20) hx hb dX7_init_42 (by decide) ?_
  refine lv_iload_n hx hb dX7_init_20 rfl (lv_at hl 0 rfl) ?_
  refine lv_bipush (v := 6) hx hb dX7_init_21 (by decide) ?_
  refine lv_icmp_ge (tgt := 45) hx hb dX7_init_23 (by decide) (fun q => absurd q (by decide)) (fun q => ?_)
  refine lv_aload_n hx hb dX7_init_26 rfl (lv_at hl 1 rfl) ?_
  refine gf_7_0 (b := q1) (by rw [rra0]; rfl) hx hb hts hown hH ma0 ka0 rfl kf_X7_11 dX7_init_27 ?_
  refine lv_iload_n hx hb dX7_init_30 rfl (lv_at hl 0 rfl) ?_
  refine hNew (ci := 5) (N := 8) hx hb hts hown hH inX5 tyX5_ok rfl (by decide) rfl df_5 kcl_X7_9 kinst_X5 kini_X5 (by decide) (by decide) dX7_init_31 (fun q10 L10 C10 I10 J10 R10 H g10 eI10 eJ10 eR10 hH => ?_)
  have nq10 : q10 ∉ L0 := fun h => g10.2.2 (old q10 h).1
  have rra0 : R10 a0 = rl [(0, q1)] := by rw [eR10, va_up_ne _ _ (g10.ne ma0)]; exact rra0
  have ria0 : I10 a0 = il [(1, 0)] := by rw [eI10, va_up_ne _ _ (g10.ne ma0)]; exact ria0
  have ka0 := g10.role ma0 ka0
  have ma0 := g10.mem ma0
  have rrq1 : R10 q1 = rl [(1, q7), (0, q4)] := by rw [eR10, va_up_ne _ _ (g10.ne mq1)]; exact rrq1
  have riq1 : I10 q1 = il [] := by rw [eI10, va_up_ne _ _ (g10.ne mq1)]; exact riq1
  have kq1 := g10.role mq1 kq1
  have mq1 := g10.mem mq1
  have kq4 := g10.role mq4 kq4
  have mq4 := g10.mem mq4
  have kq7 := g10.role mq7 kq7
  have mq7 := g10.mem mq7
  have mq10 := g10.new
  have kq10 := g10.at
  have rrq10 : R10 q10 = rl [] := by rw [eR10, va_up_self]; rfl
  have riq10 : I10 q10 = il [] := by rw [eI10, va_up_self]; rfl
  have kk := kk.new g10 eI10 eR10 zz_21 zr_21 (Or.inl rfl) (by decide)
  have old := old.new g10 eI10 eJ10 eR10
  refine lv_dup hx hb dX7_init_34 rfl ?_
  refine afA (va_runIN (As := []) (rest := [.ref q10, .int 2, .ref q1]) ⟨hx, hb, hml, hown, hts⟩ (c_X5_init kk mq10 kq10 riq10 rrq10) ⟨va_cnB 0 hts (wG_code kc_yX5_init) rfl rfl rfl (hH.2.2.2.2.2.1 _ kn_X7_21) (hts _ kini_X5) ⟨by decide, by decide, by decide +kernel⟩ ⟨by decide, by decide⟩, rfl, hts _ ki_yX5_init⟩ (preS hH) rfl rfl hl.1 rfl (lv_room (Nat.le_of_ble_eq_true rfl)) dX7_init_35 ⟨by decide, by decide⟩) hH (fun L11 C11 I11 J11 R11 H locs hp hH => ?_)
  obtain ⟨kk, od11, kq11⟩ := hp
  have ne11 : a0 ≠ q10 := ne_role ka0 kq10 (by decide)
  have rra0 : R11 a0 = rl [(0, q1)] := ((od11 a0 ma0).2 ne11).2.2.2.trans rra0
  have ria0 : I11 a0 = il [(1, 0)] := ((od11 a0 ma0).2 ne11).2.1.trans ria0
  have ka0 : C11 a0 = 23 := ((od11 a0 ma0).2 ne11).1.trans ka0
  have ma0 := (od11 a0 ma0).1
  have ne11 : q1 ≠ q10 := ne_role kq1 kq10 (by decide)
  have rrq1 : R11 q1 = rl [(1, q7), (0, q4)] := ((od11 q1 mq1).2 ne11).2.2.2.trans rrq1
  have riq1 : I11 q1 = il [] := ((od11 q1 mq1).2 ne11).2.1.trans riq1
  have kq1 : C11 q1 = 58 := ((od11 q1 mq1).2 ne11).1.trans kq1
  have mq1 := (od11 q1 mq1).1
  have ne11 : q4 ≠ q10 := ne_role kq4 kq10 (by decide)
  have kq4 : C11 q4 = 5 := ((od11 q4 mq4).2 ne11).1.trans kq4
  have mq4 := (od11 q4 mq4).1
  have ne11 : q7 ≠ q10 := ne_role kq7 kq10 (by decide)
  have kq7 : C11 q7 = 5 := ((od11 q7 mq7).2 ne11).1.trans kq7
  have mq7 := (od11 q7 mq7).1
  have kq10 : C11 q10 = 5 := kq11
  have mq10 := (od11 q10 mq10).1
  have old := old.ctor od11 nq10
  refine st_58 hx hb hH mq1 kq1 (Rg_in (Rg_c (x := 2) (a := 2) (b := 2) (by decide)) (by decide)) mq10 kq10 rfl dX7_init_38 (fun R12 H locs eR12 hH => ?_)
  have rra0 : R12 a0 = rl [(0, q1)] := by rw [eR12, u2_ne (ne_role ka0 kq1 (by decide))]; exact rra0
  have rrq1 : R12 q1 = rl [(2, q10), (1, q7), (0, q4)] := by rw [eR12]; exact rl_put rrq1
  have kk : KK L11 C11 I11 R12 (5 :: 55 :: 54 :: 21 :: 5 :: 55 :: 54 :: 21 :: 5 :: 55 :: 54 :: 21 :: 58 :: 23 :: S) := by rw [eR12]; exact kk.stR kq1 zr_58
  have old : Old L0 C0 (I0, J0, R0) a0 L11 C11 I11 J11 R12 := by rw [eR12]; exact old.stR (Or.inr nq1)
  refine lv_iinc (v := 3) (lv' := [(1, .int 3), (0, .ref a0)]) hx hb dX7_init_39 hl (k := 0) rfl (by decide) (by decide) rfl (fun ls hl => ?_)
  refine lv_goto (tgt := 20) hx hb dX7_init_42 (by decide) ?_
  refine lv_iload_n hx hb dX7_init_20 rfl (lv_at hl 0 rfl) ?_
  refine lv_bipush (v := 6) hx hb dX7_init_21 (by decide) ?_
  refine lv_icmp_ge (tgt := 45) hx hb dX7_init_23 (by decide) (fun q => absurd q (by decide)) (fun q => ?_)
  refine lv_aload_n hx hb dX7_init_26 rfl (lv_at hl 1 rfl) ?_
  refine gf_7_0 (b := q1) (by rw [rra0]; rfl) hx hb hts hown hH ma0 ka0 rfl kf_X7_11 dX7_init_27 ?_
  refine lv_iload_n hx hb dX7_init_30 rfl (lv_at hl 0 rfl) ?_
  refine hNew (ci := 5) (N := 8) hx hb hts hown hH inX5 tyX5_ok rfl (by decide) rfl df_5 kcl_X7_9 kinst_X5 kini_X5 (by decide) (by decide) dX7_init_31 (fun q13 L13 C13 I13 J13 R13 H g13 eI13 eJ13 eR13 hH => ?_)
  have nq13 : q13 ∉ L0 := fun h => g13.2.2 (old q13 h).1
  have rra0 : R13 a0 = rl [(0, q1)] := by rw [eR13, va_up_ne _ _ (g13.ne ma0)]; exact rra0
  have ria0 : I13 a0 = il [(1, 0)] := by rw [eI13, va_up_ne _ _ (g13.ne ma0)]; exact ria0
  have ka0 := g13.role ma0 ka0
  have ma0 := g13.mem ma0
  have rrq1 : R13 q1 = rl [(2, q10), (1, q7), (0, q4)] := by rw [eR13, va_up_ne _ _ (g13.ne mq1)]; exact rrq1
  have riq1 : I13 q1 = il [] := by rw [eI13, va_up_ne _ _ (g13.ne mq1)]; exact riq1
  have kq1 := g13.role mq1 kq1
  have mq1 := g13.mem mq1
  have kq4 := g13.role mq4 kq4
  have mq4 := g13.mem mq4
  have kq7 := g13.role mq7 kq7
  have mq7 := g13.mem mq7
  have kq10 := g13.role mq10 kq10
  have mq10 := g13.mem mq10
  have mq13 := g13.new
  have kq13 := g13.at
  have rrq13 : R13 q13 = rl [] := by rw [eR13, va_up_self]; rfl
  have riq13 : I13 q13 = il [] := by rw [eI13, va_up_self]; rfl
  have kk := kk.new g13 eI13 eR13 zz_21 zr_21 (Or.inl rfl) (by decide)
  have old := old.new g13 eI13 eJ13 eR13
  refine lv_dup hx hb dX7_init_34 rfl ?_
  refine afA (va_runIN (As := []) (rest := [.ref q13, .int 3, .ref q1]) ⟨hx, hb, hml, hown, hts⟩ (c_X5_init kk mq13 kq13 riq13 rrq13) ⟨va_cnB 0 hts (wG_code kc_yX5_init) rfl rfl rfl (hH.2.2.2.2.2.1 _ kn_X7_21) (hts _ kini_X5) ⟨by decide, by decide, by decide +kernel⟩ ⟨by decide, by decide⟩, rfl, hts _ ki_yX5_init⟩ (preS hH) rfl rfl hl.1 rfl (lv_room (Nat.le_of_ble_eq_true rfl)) dX7_init_35 ⟨by decide, by decide⟩) hH (fun L14 C14 I14 J14 R14 H locs hp hH => ?_)
  obtain ⟨kk, od14, kq14⟩ := hp
  have ne14 : a0 ≠ q13 := ne_role ka0 kq13 (by decide)
  have rra0 : R14 a0 = rl [(0, q1)] := ((od14 a0 ma0).2 ne14).2.2.2.trans rra0
  have ria0 : I14 a0 = il [(1, 0)] := ((od14 a0 ma0).2 ne14).2.1.trans ria0
  have ka0 : C14 a0 = 23 := ((od14 a0 ma0).2 ne14).1.trans ka0
  have ma0 := (od14 a0 ma0).1
  have ne14 : q1 ≠ q13 := ne_role kq1 kq13 (by decide)
  have rrq1 : R14 q1 = rl [(2, q10), (1, q7), (0, q4)] := ((od14 q1 mq1).2 ne14).2.2.2.trans rrq1
  have riq1 : I14 q1 = il [] := ((od14 q1 mq1).2 ne14).2.1.trans riq1
  have kq1 : C14 q1 = 58 := ((od14 q1 mq1).2 ne14).1.trans kq1
  have mq1 := (od14 q1 mq1).1
  have ne14 : q4 ≠ q13 := ne_role kq4 kq13 (by decide)
  have kq4 : C14 q4 = 5 := ((od14 q4 mq4).2 ne14).1.trans kq4
  have mq4 := (od14 q4 mq4).1
  have ne14 : q7 ≠ q13 := ne_role kq7 kq13 (by decide)
  have kq7 : C14 q7 = 5 := ((od14 q7 mq7).2 ne14).1.trans kq7
  have mq7 := (od14 q7 mq7).1
  have ne14 : q10 ≠ q13 := ne_role kq10 kq13 (by decide)
  have kq10 : C14 q10 = 5 := ((od14 q10 mq10).2 ne14).1.trans kq10
  have mq10 := (od14 q10 mq10).1
  have kq13 : C14 q13 = 5 := kq14
  have mq13 := (od14 q13 mq13).1
  have old := old.ctor od14 nq13
  refine st_58 hx hb hH mq1 kq1 (Rg_in (Rg_c (x := 3) (a := 3) (b := 3) (by decide)) (by decide)) mq13 kq13 rfl dX7_init_38 (fun R15 H locs eR15 hH => ?_)
  have rra0 : R15 a0 = rl [(0, q1)] := by rw [eR15, u2_ne (ne_role ka0 kq1 (by decide))]; exact rra0
  have rrq1 : R15 q1 = rl [(3, q13), (2, q10), (1, q7), (0, q4)] := by rw [eR15]; exact rl_put rrq1
  have kk : KK L14 C14 I14 R15 (5 :: 55 :: 54 :: 21 :: 5 :: 55 :: 54 :: 21 :: 5 :: 55 :: 54 :: 21 :: 5 :: 55 :: 54 :: 21 :: 58 :: 23 :: S) := by rw [eR15]; exact kk.stR kq1 zr_58
  have old : Old L0 C0 (I0, J0, R0) a0 L14 C14 I14 J14 R15 := by rw [eR15]; exact old.stR (Or.inr nq1)
  refine lv_iinc (v := 4) (lv' := [(1, .int 4), (0, .ref a0)]) hx hb dX7_init_39 hl (k := 0) rfl (by decide) (by decide) rfl (fun ls hl => ?_)
  refine lv_goto (tgt := 20) hx hb dX7_init_42 (by decide) ?_
  refine lv_iload_n hx hb dX7_init_20 rfl (lv_at hl 0 rfl) ?_
  refine lv_bipush (v := 6) hx hb dX7_init_21 (by decide) ?_
  refine lv_icmp_ge (tgt := 45) hx hb dX7_init_23 (by decide) (fun q => absurd q (by decide)) (fun q => ?_)
  refine lv_aload_n hx hb dX7_init_26 rfl (lv_at hl 1 rfl) ?_
  refine gf_7_0 (b := q1) (by rw [rra0]; rfl) hx hb hts hown hH ma0 ka0 rfl kf_X7_11 dX7_init_27 ?_
  refine lv_iload_n hx hb dX7_init_30 rfl (lv_at hl 0 rfl) ?_
  refine hNew (ci := 5) (N := 8) hx hb hts hown hH inX5 tyX5_ok rfl (by decide) rfl df_5 kcl_X7_9 kinst_X5 kini_X5 (by decide) (by decide) dX7_init_31 (fun q16 L16 C16 I16 J16 R16 H g16 eI16 eJ16 eR16 hH => ?_)
  have nq16 : q16 ∉ L0 := fun h => g16.2.2 (old q16 h).1
  have rra0 : R16 a0 = rl [(0, q1)] := by rw [eR16, va_up_ne _ _ (g16.ne ma0)]; exact rra0
  have ria0 : I16 a0 = il [(1, 0)] := by rw [eI16, va_up_ne _ _ (g16.ne ma0)]; exact ria0
  have ka0 := g16.role ma0 ka0
  have ma0 := g16.mem ma0
  have rrq1 : R16 q1 = rl [(3, q13), (2, q10), (1, q7), (0, q4)] := by rw [eR16, va_up_ne _ _ (g16.ne mq1)]; exact rrq1
  have riq1 : I16 q1 = il [] := by rw [eI16, va_up_ne _ _ (g16.ne mq1)]; exact riq1
  have kq1 := g16.role mq1 kq1
  have mq1 := g16.mem mq1
  have kq4 := g16.role mq4 kq4
  have mq4 := g16.mem mq4
  have kq7 := g16.role mq7 kq7
  have mq7 := g16.mem mq7
  have kq10 := g16.role mq10 kq10
  have mq10 := g16.mem mq10
  have kq13 := g16.role mq13 kq13
  have mq13 := g16.mem mq13
  have mq16 := g16.new
  have kq16 := g16.at
  have rrq16 : R16 q16 = rl [] := by rw [eR16, va_up_self]; rfl
  have riq16 : I16 q16 = il [] := by rw [eI16, va_up_self]; rfl
  have kk := kk.new g16 eI16 eR16 zz_21 zr_21 (Or.inl rfl) (by decide)
  have old := old.new g16 eI16 eJ16 eR16
  refine lv_dup hx hb dX7_init_34 rfl ?_
  refine afA (va_runIN (As := []) (rest := [.ref q16, .int 4, .ref q1]) ⟨hx, hb, hml, hown, hts⟩ (c_X5_init kk mq16 kq16 riq16 rrq16) ⟨va_cnB 0 hts (wG_code kc_yX5_init) rfl rfl rfl (hH.2.2.2.2.2.1 _ kn_X7_21) (hts _ kini_X5) ⟨by decide, by decide, by decide +kernel⟩ ⟨by decide, by decide⟩, rfl, hts _ ki_yX5_init⟩ (preS hH) rfl rfl hl.1 rfl (lv_room (Nat.le_of_ble_eq_true rfl)) dX7_init_35 ⟨by decide, by decide⟩) hH (fun L17 C17 I17 J17 R17 H locs hp hH => ?_)
  obtain ⟨kk, od17, kq17⟩ := hp
  have ne17 : a0 ≠ q16 := ne_role ka0 kq16 (by decide)
  have rra0 : R17 a0 = rl [(0, q1)] := ((od17 a0 ma0).2 ne17).2.2.2.trans rra0
  have ria0 : I17 a0 = il [(1, 0)] := ((od17 a0 ma0).2 ne17).2.1.trans ria0
  have ka0 : C17 a0 = 23 := ((od17 a0 ma0).2 ne17).1.trans ka0
  have ma0 := (od17 a0 ma0).1
  have ne17 : q1 ≠ q16 := ne_role kq1 kq16 (by decide)
  have rrq1 : R17 q1 = rl [(3, q13), (2, q10), (1, q7), (0, q4)] := ((od17 q1 mq1).2 ne17).2.2.2.trans rrq1
  have riq1 : I17 q1 = il [] := ((od17 q1 mq1).2 ne17).2.1.trans riq1
  have kq1 : C17 q1 = 58 := ((od17 q1 mq1).2 ne17).1.trans kq1
  have mq1 := (od17 q1 mq1).1
  have ne17 : q4 ≠ q16 := ne_role kq4 kq16 (by decide)
  have kq4 : C17 q4 = 5 := ((od17 q4 mq4).2 ne17).1.trans kq4
  have mq4 := (od17 q4 mq4).1
  have ne17 : q7 ≠ q16 := ne_role kq7 kq16 (by decide)
  have kq7 : C17 q7 = 5 := ((od17 q7 mq7).2 ne17).1.trans kq7
  have mq7 := (od17 q7 mq7).1
  have ne17 : q10 ≠ q16 := ne_role kq10 kq16 (by decide)
  have kq10 : C17 q10 = 5 := ((od17 q10 mq10).2 ne17).1.trans kq10
  have mq10 := (od17 q10 mq10).1
  have ne17 : q13 ≠ q16 := ne_role kq13 kq16 (by decide)
  have kq13 : C17 q13 = 5 := ((od17 q13 mq13).2 ne17).1.trans kq13
  have mq13 := (od17 q13 mq13).1
  have kq16 : C17 q16 = 5 := kq17
  have mq16 := (od17 q16 mq16).1
  have old := old.ctor od17 nq16
  refine st_58 hx hb hH mq1 kq1 (Rg_in (Rg_c (x := 4) (a := 4) (b := 4) (by decide)) (by decide)) mq16 kq16 rfl dX7_init_38 (fun R18 H locs eR18 hH => ?_)
  have rra0 : R18 a0 = rl [(0, q1)] := by rw [eR18, u2_ne (ne_role ka0 kq1 (by decide))]; exact rra0
  have rrq1 : R18 q1 = rl [(4, q16), (3, q13), (2, q10), (1, q7), (0, q4)] := by rw [eR18]; exact rl_put rrq1
  have kk : KK L17 C17 I17 R18 (5 :: 55 :: 54 :: 21 :: 5 :: 55 :: 54 :: 21 :: 5 :: 55 :: 54 :: 21 :: 5 :: 55 :: 54 :: 21 :: 5 :: 55 :: 54 :: 21 :: 58 :: 23 :: S) := by rw [eR18]; exact kk.stR kq1 zr_58
  have old : Old L0 C0 (I0, J0, R0) a0 L17 C17 I17 J17 R18 := by rw [eR18]; exact old.stR (Or.inr nq1)
  refine lv_iinc (v := 5) (lv' := [(1, .int 5), (0, .ref a0)]) hx hb dX7_init_39 hl (k := 0) rfl (by decide) (by decide) rfl (fun ls hl => ?_)
  refine lv_goto (tgt := 20) hx hb dX7_init_42 (by decide) ?_
  refine lv_iload_n hx hb dX7_init_20 rfl (lv_at hl 0 rfl) ?_
  refine lv_bipush (v := 6) hx hb dX7_init_21 (by decide) ?_
  refine lv_icmp_ge (tgt := 45) hx hb dX7_init_23 (by decide) (fun q => absurd q (by decide)) (fun q => ?_)
  refine lv_aload_n hx hb dX7_init_26 rfl (lv_at hl 1 rfl) ?_
  refine gf_7_0 (b := q1) (by rw [rra0]; rfl) hx hb hts hown hH ma0 ka0 rfl kf_X7_11 dX7_init_27 ?_
  refine lv_iload_n hx hb dX7_init_30 rfl (lv_at hl 0 rfl) ?_
  refine hNew (ci := 5) (N := 8) hx hb hts hown hH inX5 tyX5_ok rfl (by decide) rfl df_5 kcl_X7_9 kinst_X5 kini_X5 (by decide) (by decide) dX7_init_31 (fun q19 L19 C19 I19 J19 R19 H g19 eI19 eJ19 eR19 hH => ?_)
  have nq19 : q19 ∉ L0 := fun h => g19.2.2 (old q19 h).1
  have rra0 : R19 a0 = rl [(0, q1)] := by rw [eR19, va_up_ne _ _ (g19.ne ma0)]; exact rra0
  have ria0 : I19 a0 = il [(1, 0)] := by rw [eI19, va_up_ne _ _ (g19.ne ma0)]; exact ria0
  have ka0 := g19.role ma0 ka0
  have ma0 := g19.mem ma0
  have rrq1 : R19 q1 = rl [(4, q16), (3, q13), (2, q10), (1, q7), (0, q4)] := by rw [eR19, va_up_ne _ _ (g19.ne mq1)]; exact rrq1
  have riq1 : I19 q1 = il [] := by rw [eI19, va_up_ne _ _ (g19.ne mq1)]; exact riq1
  have kq1 := g19.role mq1 kq1
  have mq1 := g19.mem mq1
  have kq4 := g19.role mq4 kq4
  have mq4 := g19.mem mq4
  have kq7 := g19.role mq7 kq7
  have mq7 := g19.mem mq7
  have kq10 := g19.role mq10 kq10
  have mq10 := g19.mem mq10
  have kq13 := g19.role mq13 kq13
  have mq13 := g19.mem mq13
  have kq16 := g19.role mq16 kq16
  have mq16 := g19.mem mq16
  have mq19 := g19.new
  have kq19 := g19.at
  have rrq19 : R19 q19 = rl [] := by rw [eR19, va_up_self]; rfl
  have riq19 : I19 q19 = il [] := by rw [eI19, va_up_self]; rfl
  have kk := kk.new g19 eI19 eR19 zz_21 zr_21 (Or.inl rfl) (by decide)
  have old := old.new g19 eI19 eJ19 eR19
  refine lv_dup hx hb dX7_init_34 rfl ?_
  refine afA (va_runIN (As := []) (rest := [.ref q19, .int 5, .ref q1]) ⟨hx, hb, hml, hown, hts⟩ (c_X5_init kk mq19 kq19 riq19 rrq19) ⟨va_cnB 0 hts (wG_code kc_yX5_init) rfl rfl rfl (hH.2.2.2.2.2.1 _ kn_X7_21) (hts _ kini_X5) ⟨by decide, by decide, by decide +kernel⟩ ⟨by decide, by decide⟩, rfl, hts _ ki_yX5_init⟩ (preS hH) rfl rfl hl.1 rfl (lv_room (Nat.le_of_ble_eq_true rfl)) dX7_init_35 ⟨by decide, by decide⟩) hH (fun L20 C20 I20 J20 R20 H locs hp hH => ?_)
  obtain ⟨kk, od20, kq20⟩ := hp
  have ne20 : a0 ≠ q19 := ne_role ka0 kq19 (by decide)
  have rra0 : R20 a0 = rl [(0, q1)] := ((od20 a0 ma0).2 ne20).2.2.2.trans rra0
  have ria0 : I20 a0 = il [(1, 0)] := ((od20 a0 ma0).2 ne20).2.1.trans ria0
  have ka0 : C20 a0 = 23 := ((od20 a0 ma0).2 ne20).1.trans ka0
  have ma0 := (od20 a0 ma0).1
  have ne20 : q1 ≠ q19 := ne_role kq1 kq19 (by decide)
  have rrq1 : R20 q1 = rl [(4, q16), (3, q13), (2, q10), (1, q7), (0, q4)] := ((od20 q1 mq1).2 ne20).2.2.2.trans rrq1
  have riq1 : I20 q1 = il [] := ((od20 q1 mq1).2 ne20).2.1.trans riq1
  have kq1 : C20 q1 = 58 := ((od20 q1 mq1).2 ne20).1.trans kq1
  have mq1 := (od20 q1 mq1).1
  have ne20 : q4 ≠ q19 := ne_role kq4 kq19 (by decide)
  have kq4 : C20 q4 = 5 := ((od20 q4 mq4).2 ne20).1.trans kq4
  have mq4 := (od20 q4 mq4).1
  have ne20 : q7 ≠ q19 := ne_role kq7 kq19 (by decide)
  have kq7 : C20 q7 = 5 := ((od20 q7 mq7).2 ne20).1.trans kq7
  have mq7 := (od20 q7 mq7).1
  have ne20 : q10 ≠ q19 := ne_role kq10 kq19 (by decide)
  have kq10 : C20 q10 = 5 := ((od20 q10 mq10).2 ne20).1.trans kq10
  have mq10 := (od20 q10 mq10).1
  have ne20 : q13 ≠ q19 := ne_role kq13 kq19 (by decide)
  have kq13 : C20 q13 = 5 := ((od20 q13 mq13).2 ne20).1.trans kq13
  have mq13 := (od20 q13 mq13).1
  have ne20 : q16 ≠ q19 := ne_role kq16 kq19 (by decide)
  have kq16 : C20 q16 = 5 := ((od20 q16 mq16).2 ne20).1.trans kq16
  have mq16 := (od20 q16 mq16).1
  have kq19 : C20 q19 = 5 := kq20
  have mq19 := (od20 q19 mq19).1
  have old := old.ctor od20 nq19
  refine st_58 hx hb hH mq1 kq1 (Rg_in (Rg_c (x := 5) (a := 5) (b := 5) (by decide)) (by decide)) mq19 kq19 rfl dX7_init_38 (fun R21 H locs eR21 hH => ?_)
  have rra0 : R21 a0 = rl [(0, q1)] := by rw [eR21, u2_ne (ne_role ka0 kq1 (by decide))]; exact rra0
  have rrq1 : R21 q1 = rl [(5, q19), (4, q16), (3, q13), (2, q10), (1, q7), (0, q4)] := by rw [eR21]; exact rl_put rrq1
  have kk : KK L20 C20 I20 R21 (5 :: 55 :: 54 :: 21 :: 5 :: 55 :: 54 :: 21 :: 5 :: 55 :: 54 :: 21 :: 5 :: 55 :: 54 :: 21 :: 5 :: 55 :: 54 :: 21 :: 5 :: 55 :: 54 :: 21 :: 58 :: 23 :: S) := by rw [eR21]; exact kk.stR kq1 zr_58
  have old : Old L0 C0 (I0, J0, R0) a0 L20 C20 I20 J20 R21 := by rw [eR21]; exact old.stR (Or.inr nq1)
  refine lv_iinc (v := 6) (lv' := [(1, .int 6), (0, .ref a0)]) hx hb dX7_init_39 hl (k := 0) rfl (by decide) (by decide) rfl (fun ls hl => ?_)
  refine lv_goto (tgt := 20) hx hb dX7_init_42 (by decide) ?_
  refine lv_iload_n hx hb dX7_init_20 rfl (lv_at hl 0 rfl) ?_
  refine lv_bipush (v := 6) hx hb dX7_init_21 (by decide) ?_
  refine lv_icmp_ge (tgt := 45) hx hb dX7_init_23 (by decide) (fun q => ?_) (fun q => absurd (by decide) q)
  have hI22 : ∀ j, j < rN 56 → rLo 56 j ≤ (I20 q1 j).toInt ∧ (I20 q1 j).toInt ≤ rHi 56 j ∧ (rX 56 = true → (I20 q1 j).toInt ≤ 3 ∨ (I20 q1 j).toInt = 9) := by rw [riq1]; decide +kernel
  have hR22 : ∀ j, j < rN 56 → rR 56 j ≠ 0 → ∃ b, b ∈ L20 ∧ b ≠ q1 ∧ R21 q1 j = some b ∧ C20 b + 1 = rR 56 j := by
    intro j hj hn
    rw [rrq1]
    have hj : j < 6 := hj
    rcases (show j = 0 ∨ j = 1 ∨ j = 2 ∨ j = 3 ∨ j = 4 ∨ j = 5 by omega) with rfl | rfl | rfl | rfl | rfl | rfl
    · exact ⟨q4, mq4, ne_role kq4 kq1 (by decide), rfl, by rw [kq4]; rfl⟩
    · exact ⟨q7, mq7, ne_role kq7 kq1 (by decide), rfl, by rw [kq7]; rfl⟩
    · exact ⟨q10, mq10, ne_role kq10 kq1 (by decide), rfl, by rw [kq10]; rfl⟩
    · exact ⟨q13, mq13, ne_role kq13 kq1 (by decide), rfl, by rw [kq13]; rfl⟩
    · exact ⟨q16, mq16, ne_role kq16 kq1 (by decide), rfl, by rw [kq16]; rfl⟩
    · exact ⟨q19, mq19, ne_role kq19 kq1 (by decide), rfl, by rw [kq19]; rfl⟩
  have hH := hH.rel (q := q1) (r := 56) (by rw [kq1]; rfl) (by rw [kq1]; rfl)
  have kk := kk.rel mq1 kq1 (Or.inr ⟨by decide, by decide⟩) hI22 hR22 (Or.inl rfl) (fun h => absurd h (by decide)) (by decide) (by decide)
  have old := old.rel (q := q1) (r := 56) (Or.inr nq1)
  obtain ⟨C22, eC22⟩ : ∃ z, z = va_up C20 q1 56 := ⟨_, rfl⟩
  rw [← eC22] at hH kk old
  have ka0 : C22 a0 = 23 := by rw [eC22, va_up_ne _ _ (ne_role ka0 kq1 (by decide))]; exact ka0
  have kq4 : C22 q4 = 5 := by rw [eC22, va_up_ne _ _ (ne_role kq4 kq1 (by decide))]; exact kq4
  have kq7 : C22 q7 = 5 := by rw [eC22, va_up_ne _ _ (ne_role kq7 kq1 (by decide))]; exact kq7
  have kq10 : C22 q10 = 5 := by rw [eC22, va_up_ne _ _ (ne_role kq10 kq1 (by decide))]; exact kq10
  have kq13 : C22 q13 = 5 := by rw [eC22, va_up_ne _ _ (ne_role kq13 kq1 (by decide))]; exact kq13
  have kq16 : C22 q16 = 5 := by rw [eC22, va_up_ne _ _ (ne_role kq16 kq1 (by decide))]; exact kq16
  have kq19 : C22 q19 = 5 := by rw [eC22, va_up_ne _ _ (ne_role kq19 kq1 (by decide))]; exact kq19
  have kq1 : C22 q1 = 56 := by rw [eC22, va_up_self]
  have hI23 : ∀ j, j < rN 7 → rLo 7 j ≤ (I20 a0 j).toInt ∧ (I20 a0 j).toInt ≤ rHi 7 j ∧ (rX 7 = true → (I20 a0 j).toInt ≤ 3 ∨ (I20 a0 j).toInt = 9) := by rw [ria0]; decide +kernel
  have hR23 : ∀ j, j < rN 7 → rR 7 j ≠ 0 → ∃ b, b ∈ L20 ∧ b ≠ a0 ∧ R21 a0 j = some b ∧ C22 b + 1 = rR 7 j := by
    intro j hj hn
    rw [rra0]
    have hj : j < 2 := hj
    rcases (show j = 0 ∨ j = 1 by omega) with rfl | rfl
    · exact ⟨q1, mq1, ne_role kq1 ka0 (by decide), rfl, by rw [kq1]; rfl⟩
    · exact absurd rfl hn
  have hH := hH.rel (q := a0) (r := 7) (by rw [ka0]; rfl) (by rw [ka0]; rfl)
  have kk := kk.rel ma0 ka0 (Or.inl ⟨by decide, by decide⟩) hI23 hR23 (Or.inl rfl) (fun h => absurd h (by decide)) (by decide) (by decide)
  have old := old.rel (q := a0) (r := 7) (Or.inl rfl)
  obtain ⟨C23, eC23⟩ : ∃ z, z = va_up C22 a0 7 := ⟨_, rfl⟩
  rw [← eC23] at hH kk old
  have kq1 : C23 q1 = 56 := by rw [eC23, va_up_ne _ _ (ne_role kq1 ka0 (by decide))]; exact kq1
  have kq4 : C23 q4 = 5 := by rw [eC23, va_up_ne _ _ (ne_role kq4 ka0 (by decide))]; exact kq4
  have kq7 : C23 q7 = 5 := by rw [eC23, va_up_ne _ _ (ne_role kq7 ka0 (by decide))]; exact kq7
  have kq10 : C23 q10 = 5 := by rw [eC23, va_up_ne _ _ (ne_role kq10 ka0 (by decide))]; exact kq10
  have kq13 : C23 q13 = 5 := by rw [eC23, va_up_ne _ _ (ne_role kq13 ka0 (by decide))]; exact kq13
  have kq16 : C23 q16 = 5 := by rw [eC23, va_up_ne _ _ (ne_role kq16 ka0 (by decide))]; exact kq16
  have kq19 : C23 q19 = 5 := by rw [eC23, va_up_ne _ _ (ne_role kq19 ka0 (by decide))]; exact kq19
  have ka0 : C23 a0 = 7 := by rw [eC23, va_up_self]
  refine W.widen (k := 19) (n := 102) (by decide) (by decide) ?_
  exact ret _ _ _ _ _ _ _ _ _ dX7_init_45 hH ⟨kk, old, ka0⟩
