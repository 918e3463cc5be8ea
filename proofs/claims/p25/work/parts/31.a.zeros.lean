theorem zz_32 : ∀ j, rLo 32 j ≤ 0 ∧ 0 ≤ rHi 32 j := fun j => ⟨(by decide : (0 : Int) ≤ 0), (by decide : (0 : Int) ≤ 6)⟩
theorem zr_32 : ∀ j, rR 32 j = 0 := fun j => rfl
theorem zz_33 : ∀ j, rLo 33 j ≤ 0 ∧ 0 ≤ rHi 33 j := fun j => ⟨(by decide : (0 : Int) ≤ 0), (by decide : (0 : Int) ≤ 6)⟩
theorem zr_33 : ∀ j, rR 33 j = 0 := fun j => rfl
theorem zz_34 : ∀ j, rLo 34 j ≤ 0 ∧ 0 ≤ rHi 34 j := fun j => ⟨(by decide : (0 : Int) ≤ 0), (by decide : (0 : Int) ≤ 50)⟩
theorem zr_34 : ∀ j, rR 34 j = 0 := fun j => rfl
theorem zz_35 : ∀ j, rLo 35 j ≤ 0 ∧ 0 ≤ rHi 35 j := fun j => ⟨(by decide : (-1000 : Int) ≤ 0), (by decide : (0 : Int) ≤ 1000)⟩
theorem zr_35 : ∀ j, rR 35 j = 0 := fun j => rfl
theorem zz_36 : ∀ j, rLo 36 j ≤ 0 ∧ 0 ≤ rHi 36 j := fun j => ⟨(by decide : (-1000 : Int) ≤ 0), (by decide : (0 : Int) ≤ 1000)⟩
theorem zr_36 : ∀ j, rR 36 j = 0 := fun j => rfl
theorem zz_37 : ∀ j, rLo 37 j ≤ 0 ∧ 0 ≤ rHi 37 j := fun j => ⟨(by decide : (0 : Int) ≤ 0), (by decide : (0 : Int) ≤ 1)⟩
theorem zr_37 : ∀ j, rR 37 j = 0 := fun j => rfl
theorem zz_38 : ∀ j, rLo 38 j ≤ 0 ∧ 0 ≤ rHi 38 j := fun j => ⟨(by decide : (-2147483648 : Int) ≤ 0), (by decide : (0 : Int) ≤ 2147483647)⟩
theorem zr_38 : ∀ j, rR 38 j = 0 := fun j => rfl
theorem zz_39 : ∀ j, rLo 39 j ≤ 0 ∧ 0 ≤ rHi 39 j := fun j => ⟨(by decide : (-1 : Int) ≤ 0), (by decide : (0 : Int) ≤ 31)⟩
theorem zr_39 : ∀ j, rR 39 j = 0 := fun j => rfl
theorem zz_40 : ∀ j, rLo 40 j ≤ 0 ∧ 0 ≤ rHi 40 j := fun j => ⟨(by decide : (-2147483648 : Int) ≤ 0), (by decide : (0 : Int) ≤ 2147483647)⟩
theorem zr_40 : ∀ j, rR 40 j = 0 := fun j => rfl
theorem zz_41 : ∀ j, rLo 41 j ≤ 0 ∧ 0 ≤ rHi 41 j := fun j => ⟨(by decide : (0 : Int) ≤ 0), (by decide : (0 : Int) ≤ 1)⟩
theorem zr_41 : ∀ j, rR 41 j = 0 := fun j => rfl
theorem zz_42 : ∀ j, rLo 42 j ≤ 0 ∧ 0 ≤ rHi 42 j := fun j => ⟨(by decide : (-2147483648 : Int) ≤ 0), (by decide : (0 : Int) ≤ 2147483647)⟩
theorem zr_42 : ∀ j, rR 42 j = 0 := fun j => rfl
theorem zz_43 : ∀ j, rLo 43 j ≤ 0 ∧ 0 ≤ rHi 43 j := fun j => ⟨(by decide : (0 : Int) ≤ 0), (by decide : (0 : Int) ≤ 9)⟩
theorem zr_43 : ∀ j, rR 43 j = 0 := fun j => rfl
theorem zz_44 : ∀ j, rLo 44 j ≤ 0 ∧ 0 ≤ rHi 44 j := fun j => ⟨(by decide : (0 : Int) ≤ 0), (by decide : (0 : Int) ≤ 9)⟩
theorem zr_44 : ∀ j, rR 44 j = 0 := fun j => rfl
theorem zz_45 : ∀ j, rLo 45 j ≤ 0 ∧ 0 ≤ rHi 45 j := fun j => ⟨(by decide : (-2147483648 : Int) ≤ 0), (by decide : (0 : Int) ≤ 2147483647)⟩
theorem zr_45 : ∀ j, rR 45 j = 0 := fun j => rfl
theorem zz_46 : ∀ j, rLo 46 j ≤ 0 ∧ 0 ≤ rHi 46 j := fun j => ⟨(by decide : (-2147483648 : Int) ≤ 0), (by decide : (0 : Int) ≤ 2147483647)⟩
theorem zr_46 : ∀ j, rR 46 j = 0 := fun j => rfl
theorem zz_47 : ∀ j, rLo 47 j ≤ 0 ∧ 0 ≤ rHi 47 j := fun j => ⟨(by decide : (0 : Int) ≤ 0), (by decide : (0 : Int) ≤ 9)⟩
theorem zr_47 : ∀ j, rR 47 j = 0 := fun j => rfl
theorem zz_48 : ∀ j, rLo 48 j ≤ 0 ∧ 0 ≤ rHi 48 j := fun j => ⟨(by decide : (0 : Int) ≤ 0), (by decide : (0 : Int) ≤ 9)⟩
theorem zr_48 : ∀ j, rR 48 j = 0 := fun j => rfl
theorem zz_49 : ∀ j, rLo 49 j ≤ 0 ∧ 0 ≤ rHi 49 j := fun j => ⟨(by decide : (-2147483648 : Int) ≤ 0), (by decide : (0 : Int) ≤ 2147483647)⟩
theorem zr_49 : ∀ j, rR 49 j = 0 := fun j => rfl
theorem zz_50 : ∀ j, rLo 50 j ≤ 0 ∧ 0 ≤ rHi 50 j := fun j => ⟨(by decide : (-2147483648 : Int) ≤ 0), (by decide : (0 : Int) ≤ 2147483647)⟩
theorem zr_50 : ∀ j, rR 50 j = 0 := fun j => rfl
theorem zz_52 : ∀ j, rLo 52 j ≤ 0 ∧ 0 ≤ rHi 52 j := fun j => ⟨(by decide : (0 : Int) ≤ 0), (by decide : (0 : Int) ≤ 9)⟩
theorem zr_52 : ∀ j, rR 52 j = 0 := fun j => rfl
theorem zz_53 : ∀ j, rLo 53 j ≤ 0 ∧ 0 ≤ rHi 53 j := fun j => ⟨(by decide : (-2147483648 : Int) ≤ 0), (by decide : (0 : Int) ≤ 2147483647)⟩
theorem zr_53 : ∀ j, rR 53 j = 0 := fun j => rfl
theorem zz_54 : ∀ j, rLo 54 j ≤ 0 ∧ 0 ≤ rHi 54 j := fun j => ⟨(by decide : (0 : Int) ≤ 0), (by decide : (0 : Int) ≤ 6)⟩
theorem zr_54 : ∀ j, rR 54 j = 0 := fun j => rfl
theorem zz_55 : ∀ j, rLo 55 j ≤ 0 ∧ 0 ≤ rHi 55 j := fun j => ⟨(by decide : (-1000 : Int) ≤ 0), (by decide : (0 : Int) ≤ 1000)⟩
theorem zr_55 : ∀ j, rR 55 j = 0 := fun j => rfl
theorem zz_58 : ∀ j, rLo 58 j ≤ 0 ∧ 0 ≤ rHi 58 j := fun j => ⟨(by decide : (-2147483648 : Int) ≤ 0), (by decide : (0 : Int) ≤ 2147483647)⟩
theorem zr_58 : ∀ j, rR 58 j = 0 := fun j => rfl
theorem zz_59 : ∀ j, rLo 59 j ≤ 0 ∧ 0 ≤ rHi 59 j := fun j => ⟨(by decide : (-2147483648 : Int) ≤ 0), (by decide : (0 : Int) ≤ 2147483647)⟩
theorem zr_59 : ∀ j, rR 59 j = 0 := fun j => rfl
theorem zz_60 : ∀ j, rLo 60 j ≤ 0 ∧ 0 ≤ rHi 60 j := fun j => ⟨(by decide : (-2147483648 : Int) ≤ 0), (by decide : (0 : Int) ≤ 2147483647)⟩
theorem zr_60 : ∀ j, rR 60 j = 0 := fun j => rfl
theorem zz_64 : ∀ j, rLo 64 j ≤ 0 ∧ 0 ≤ rHi 64 j := fun j => ⟨(by decide : (0 : Int) ≤ 0), (by decide : (0 : Int) ≤ 6)⟩
theorem zr_64 : ∀ j, rR 64 j = 0 := fun j => rfl
theorem zz_65 : ∀ j, rLo 65 j ≤ 0 ∧ 0 ≤ rHi 65 j := fun j => ⟨(by decide : (0 : Int) ≤ 0), (by decide : (0 : Int) ≤ 6)⟩
theorem zr_65 : ∀ j, rR 65 j = 0 := fun j => rfl
theorem zz_66 : ∀ j, rLo 66 j ≤ 0 ∧ 0 ≤ rHi 66 j := fun j => ⟨(by decide : (0 : Int) ≤ 0), (by decide : (0 : Int) ≤ 50)⟩
theorem zr_66 : ∀ j, rR 66 j = 0 := fun j => rfl
theorem zz_67 : ∀ j, rLo 67 j ≤ 0 ∧ 0 ≤ rHi 67 j := fun j => ⟨(by decide : (-1000 : Int) ≤ 0), (by decide : (0 : Int) ≤ 1000)⟩
theorem zr_67 : ∀ j, rR 67 j = 0 := fun j => rfl
theorem zz_68 : ∀ j, rLo 68 j ≤ 0 ∧ 0 ≤ rHi 68 j := fun j => ⟨(by decide : (-1000 : Int) ≤ 0), (by decide : (0 : Int) ≤ 1000)⟩
theorem zr_68 : ∀ j, rR 68 j = 0 := fun j => rfl
theorem zz_69 : ∀ j, rLo 69 j ≤ 0 ∧ 0 ≤ rHi 69 j := fun j => ⟨(by decide : (0 : Int) ≤ 0), (by decide : (0 : Int) ≤ 1)⟩
theorem zr_69 : ∀ j, rR 69 j = 0 := fun j => rfl
theorem zz_70 : ∀ j, rLo 70 j ≤ 0 ∧ 0 ≤ rHi 70 j := fun j => ⟨(by decide : (0 : Int) ≤ 0), (by decide : (0 : Int) ≤ 6)⟩
theorem zr_70 : ∀ j, rR 70 j = 0 := fun j => rfl
theorem zz_71 : ∀ j, rLo 71 j ≤ 0 ∧ 0 ≤ rHi 71 j := fun j => ⟨(by decide : (0 : Int) ≤ 0), (by decide : (0 : Int) ≤ 99)⟩
theorem zr_71 : ∀ j, rR 71 j = 0 := fun j => rfl
theorem zz_72 : ∀ j, rLo 72 j ≤ 0 ∧ 0 ≤ rHi 72 j := fun j => ⟨(by decide : (0 : Int) ≤ 0), (by decide : (0 : Int) ≤ 4)⟩
theorem zr_72 : ∀ j, rR 72 j = 0 := fun j => rfl
theorem zz_73 : ∀ j, rLo 73 j ≤ 0 ∧ 0 ≤ rHi 73 j := fun j => ⟨(by decide : (0 : Int) ≤ 0), (by decide : (0 : Int) ≤ 6)⟩
theorem zr_73 : ∀ j, rR 73 j = 0 := fun j => rfl
theorem zz_74 : ∀ j, rLo 74 j ≤ 0 ∧ 0 ≤ rHi 74 j := fun j => ⟨(by decide : (0 : Int) ≤ 0), (by decide : (0 : Int) ≤ 6)⟩
theorem zr_74 : ∀ j, rR 74 j = 0 := fun j => rfl
theorem zz_75 : ∀ j, rLo 75 j ≤ 0 ∧ 0 ≤ rHi 75 j := fun j => ⟨(by decide : (0 : Int) ≤ 0), (by decide : (0 : Int) ≤ 2)⟩
theorem zr_75 : ∀ j, rR 75 j = 0 := fun j => rfl
theorem zz_76 : ∀ j, rLo 76 j ≤ 0 ∧ 0 ≤ rHi 76 j := fun j => ⟨(by decide : (-1 : Int) ≤ 0), (by decide : (0 : Int) ≤ 2)⟩
theorem zr_76 : ∀ j, rR 76 j = 0 := fun j => rfl
theorem zz_77 : ∀ j, rLo 77 j ≤ 0 ∧ 0 ≤ rHi 77 j := fun j => ⟨(by decide : (-2147483648 : Int) ≤ 0), (by decide : (0 : Int) ≤ 2147483647)⟩
theorem zr_77 : ∀ j, rR 77 j = 0 := fun j => rfl
theorem zz_78 : ∀ j, rLo 78 j ≤ 0 ∧ 0 ≤ rHi 78 j := fun j => ⟨(by decide : (-1000 : Int) ≤ 0), (by decide : (0 : Int) ≤ 1000)⟩
theorem zr_78 : ∀ j, rR 78 j = 0 := fun j => rfl
theorem zz_79 : ∀ j, rLo 79 j ≤ 0 ∧ 0 ≤ rHi 79 j := fun j => ⟨(by decide : (0 : Int) ≤ 0), (by decide : (0 : Int) ≤ 1)⟩
theorem zr_79 : ∀ j, rR 79 j = 0 := fun j => rfl
theorem zz_80 : ∀ j, rLo 80 j ≤ 0 ∧ 0 ≤ rHi 80 j := fun j => ⟨(by decide : (0 : Int) ≤ 0), (by decide : (0 : Int) ≤ 1)⟩
theorem zr_80 : ∀ j, rR 80 j = 0 := fun j => rfl
theorem zz_81 : ∀ j, rLo 81 j ≤ 0 ∧ 0 ≤ rHi 81 j := fun j => ⟨(by decide : (-2147483648 : Int) ≤ 0), (by decide : (0 : Int) ≤ 2147483647)⟩
theorem zr_81 : ∀ j, rR 81 j = 0 := fun j => rfl
theorem zz_82 : ∀ j, rLo 82 j ≤ 0 ∧ 0 ≤ rHi 82 j := fun j => ⟨(by decide : (0 : Int) ≤ 0), (by decide : (0 : Int) ≤ 9)⟩
theorem zr_82 : ∀ j, rR 82 j = 0 := fun j => rfl
theorem zz_83 : ∀ j, rLo 83 j ≤ 0 ∧ 0 ≤ rHi 83 j := fun j => ⟨(by decide : (-2147483648 : Int) ≤ 0), (by decide : (0 : Int) ≤ 2147483647)⟩
theorem zr_83 : ∀ j, rR 83 j = 0 := fun j => rfl
theorem zz_84 : ∀ j, rLo 84 j ≤ 0 ∧ 0 ≤ rHi 84 j := fun j => ⟨(by decide : (-2147483648 : Int) ≤ 0), (by decide : (0 : Int) ≤ 2147483647)⟩
theorem zr_84 : ∀ j, rR 84 j = 0 := fun j => rfl
theorem zz_85 : ∀ j, rLo 85 j ≤ 0 ∧ 0 ≤ rHi 85 j := fun j => ⟨(by decide : (-2147483648 : Int) ≤ 0), (by decide : (0 : Int) ≤ 2147483647)⟩
theorem zr_85 : ∀ j, rR 85 j = 0 := fun j => rfl
theorem zz_86 : ∀ j, rLo 86 j ≤ 0 ∧ 0 ≤ rHi 86 j := fun j => ⟨(by decide : (0 : Int) ≤ 0), (by decide : (0 : Int) ≤ 6)⟩
theorem zr_86 : ∀ j, rR 86 j = 0 := fun j => rfl
theorem zz_87 : ∀ j, rLo 87 j ≤ 0 ∧ 0 ≤ rHi 87 j := fun j => ⟨(by decide : (0 : Int) ≤ 0), (by decide : (0 : Int) ≤ 31)⟩
theorem zr_87 : ∀ j, rR 87 j = 0 := fun j => rfl
theorem zz_88 : ∀ j, rLo 88 j ≤ 0 ∧ 0 ≤ rHi 88 j := fun j => ⟨(by decide : (-2147483648 : Int) ≤ 0), (by decide : (0 : Int) ≤ 2147483647)⟩
theorem zr_88 : ∀ j, rR 88 j = 0 := fun j => rfl
theorem zz_89 : ∀ j, rLo 89 j ≤ 0 ∧ 0 ≤ rHi 89 j := fun j => ⟨(by decide : (0 : Int) ≤ 0), (by decide : (0 : Int) ≤ 31)⟩
theorem zr_89 : ∀ j, rR 89 j = 0 := fun j => rfl
theorem zz_90 : ∀ j, rLo 90 j ≤ 0 ∧ 0 ≤ rHi 90 j := fun j => ⟨(by decide : (0 : Int) ≤ 0), (by decide : (0 : Int) ≤ 4)⟩
theorem zr_90 : ∀ j, rR 90 j = 0 := fun j => rfl
theorem zz_91 : ∀ j, rLo 91 j ≤ 0 ∧ 0 ≤ rHi 91 j := fun j => ⟨(by decide : (0 : Int) ≤ 0), (by decide : (0 : Int) ≤ 4)⟩
theorem zr_91 : ∀ j, rR 91 j = 0 := fun j => rfl
theorem zz_92 : ∀ j, rLo 92 j ≤ 0 ∧ 0 ≤ rHi 92 j := fun j => ⟨(by decide : (0 : Int) ≤ 0), (by decide : (0 : Int) ≤ 4)⟩
theorem zr_92 : ∀ j, rR 92 j = 0 := fun j => rfl
theorem zz_93 : ∀ j, rLo 93 j ≤ 0 ∧ 0 ≤ rHi 93 j := fun j => ⟨(by decide : (-2147483648 : Int) ≤ 0), (by decide : (0 : Int) ≤ 2147483647)⟩
theorem zr_93 : ∀ j, rR 93 j = 0 := fun j => rfl
theorem zz_94 : ∀ j, rLo 94 j ≤ 0 ∧ 0 ≤ rHi 94 j := fun j => ⟨(by decide : (0 : Int) ≤ 0), (by decide : (0 : Int) ≤ 9)⟩
theorem zr_94 : ∀ j, rR 94 j = 0 := fun j => rfl
theorem zz_95 : ∀ j, rLo 95 j ≤ 0 ∧ 0 ≤ rHi 95 j := fun j => ⟨(by decide : (-2147483648 : Int) ≤ 0), (by decide : (0 : Int) ≤ 2147483647)⟩
theorem zr_95 : ∀ j, rR 95 j = 0 := fun j => rfl
theorem zz_96 : ∀ j, rLo 96 j ≤ 0 ∧ 0 ≤ rHi 96 j := fun j => ⟨(by decide : (0 : Int) ≤ 0), (by decide : (0 : Int) ≤ 9)⟩
theorem zr_96 : ∀ j, rR 96 j = 0 := fun j => rfl
theorem zz_97 : ∀ j, rLo 97 j ≤ 0 ∧ 0 ≤ rHi 97 j := fun j => ⟨(by decide : (0 : Int) ≤ 0), (by decide : (0 : Int) ≤ 119)⟩
theorem zr_97 : ∀ j, rR 97 j = 0 := fun j => rfl
theorem zz_98 : ∀ j, rLo 98 j ≤ 0 ∧ 0 ≤ rHi 98 j := fun j => ⟨(by decide : (0 : Int) ≤ 0), (by decide : (0 : Int) ≤ 4)⟩
theorem zr_98 : ∀ j, rR 98 j = 0 := fun j => rfl
theorem zz_99 : ∀ j, rLo 99 j ≤ 0 ∧ 0 ≤ rHi 99 j := fun j => ⟨(by decide : (-2147483648 : Int) ≤ 0), (by decide : (0 : Int) ≤ 2147483647)⟩
theorem zr_99 : ∀ j, rR 99 j = 0 := fun j => rfl
theorem zz_100 : ∀ j, rLo 100 j ≤ 0 ∧ 0 ≤ rHi 100 j := fun j => ⟨(by decide : (-2147483648 : Int) ≤ 0), (by decide : (0 : Int) ≤ 2147483647)⟩
theorem zr_100 : ∀ j, rR 100 j = 0 := fun j => rfl
theorem zz_16 : ∀ j, rLo 16 j ≤ 0 ∧ 0 ≤ rHi 16 j := fun j => ⟨(by decide : (-2147483648 : Int) ≤ 0), (by decide : (0 : Int) ≤ 2147483647)⟩
theorem zr_16 : ∀ j, rR 16 j = 0 := fun j => rfl
theorem df_0 : ∀ j, j < 2 → defaultValue (tyX0 j) = (if fT 0 j = 0 then Value.int 0 else if fT 0 j = 1 then .long 0 else .null) := by
  intro j hj
  rcases (show j = 0 ∨ j = 1 by omega) with rfl | rfl <;> rfl
theorem zz_17 : ∀ j, rLo 17 j ≤ 0 ∧ 0 ≤ rHi 17 j := fun j => ⟨(by decide : (-2147483648 : Int) ≤ 0), (by decide : (0 : Int) ≤ 2147483647)⟩
theorem zr_17 : ∀ j, rR 17 j = 0 := fun j => rfl
theorem df_1 : ∀ j, j < 11 → defaultValue (tyX1 j) = (if fT 1 j = 0 then Value.int 0 else if fT 1 j = 1 then .long 0 else .null) := by
  intro j hj
  rcases (show j = 0 ∨ j = 1 ∨ j = 2 ∨ j = 3 ∨ j = 4 ∨ j = 5 ∨ j = 6 ∨ j = 7 ∨ j = 8 ∨ j = 9 ∨ j = 10 by omega) with rfl | rfl | rfl | rfl | rfl | rfl | rfl | rfl | rfl | rfl | rfl <;> rfl
theorem zz_18 : ∀ j, rLo 18 j ≤ 0 ∧ 0 ≤ rHi 18 j := fun j => ⟨(by decide : (-2147483648 : Int) ≤ 0), (by decide : (0 : Int) ≤ 2147483647)⟩
theorem zr_18 : ∀ j, rR 18 j = 0 := fun j => rfl
theorem df_2 : ∀ j, j < 2 → defaultValue (tyX2 j) = (if fT 2 j = 0 then Value.int 0 else if fT 2 j = 1 then .long 0 else .null) := by
  intro j hj
  rcases (show j = 0 ∨ j = 1 by omega) with rfl | rfl <;> rfl
theorem zz_19 : ∀ j, rLo 19 j ≤ 0 ∧ 0 ≤ rHi 19 j := fun j => ⟨(by decide : (-2147483648 : Int) ≤ 0), (by decide : (0 : Int) ≤ 2147483647)⟩
theorem zr_19 : ∀ j, rR 19 j = 0 := fun j => rfl
theorem df_3 : ∀ j, j < 7 → defaultValue (tyX3 j) = (if fT 3 j = 0 then Value.int 0 else if fT 3 j = 1 then .long 0 else .null) := by
  intro j hj
  rcases (show j = 0 ∨ j = 1 ∨ j = 2 ∨ j = 3 ∨ j = 4 ∨ j = 5 ∨ j = 6 by omega) with rfl | rfl | rfl | rfl | rfl | rfl | rfl <;> rfl
theorem zz_20 : ∀ j, rLo 20 j ≤ 0 ∧ 0 ≤ rHi 20 j := fun j => ⟨(by decide : (-2147483648 : Int) ≤ 0), (by decide : (0 : Int) ≤ 2147483647)⟩
theorem zr_20 : ∀ j, rR 20 j = 0 := fun j => rfl
theorem df_4 : ∀ j, j < 5 → defaultValue (tyX4 j) = (if fT 4 j = 0 then Value.int 0 else if fT 4 j = 1 then .long 0 else .null) := by
  intro j hj
  rcases (show j = 0 ∨ j = 1 ∨ j = 2 ∨ j = 3 ∨ j = 4 by omega) with rfl | rfl | rfl | rfl | rfl <;> rfl
theorem zz_21 : ∀ j, rLo 21 j ≤ 0 ∧ 0 ≤ rHi 21 j := fun j => ⟨(by decide : (-2147483648 : Int) ≤ 0), (by decide : (0 : Int) ≤ 2147483647)⟩
theorem zr_21 : ∀ j, rR 21 j = 0 := fun j => rfl
theorem df_5 : ∀ j, j < 8 → defaultValue (tyX5 j) = (if fT 5 j = 0 then Value.int 0 else if fT 5 j = 1 then .long 0 else .null) := by
  intro j hj
  rcases (show j = 0 ∨ j = 1 ∨ j = 2 ∨ j = 3 ∨ j = 4 ∨ j = 5 ∨ j = 6 ∨ j = 7 by omega) with rfl | rfl | rfl | rfl | rfl | rfl | rfl | rfl <;> rfl
theorem zz_22 : ∀ j, rLo 22 j ≤ 0 ∧ 0 ≤ rHi 22 j := fun j => ⟨(by decide : (-2147483648 : Int) ≤ 0), (by decide : (0 : Int) ≤ 2147483647)⟩
theorem zr_22 : ∀ j, rR 22 j = 0 := fun j => rfl
theorem df_6 : ∀ j, j < 12 → defaultValue (tyX6 j) = (if fT 6 j = 0 then Value.int 0 else if fT 6 j = 1 then .long 0 else .null) := by
  intro j hj
  rcases (show j = 0 ∨ j = 1 ∨ j = 2 ∨ j = 3 ∨ j = 4 ∨ j = 5 ∨ j = 6 ∨ j = 7 ∨ j = 8 ∨ j = 9 ∨ j = 10 ∨ j = 11 by omega) with rfl | rfl | rfl | rfl | rfl | rfl | rfl | rfl | rfl | rfl | rfl | rfl <;> rfl
theorem zz_23 : ∀ j, rLo 23 j ≤ 0 ∧ 0 ≤ rHi 23 j := fun j => ⟨(by decide : (-2147483648 : Int) ≤ 0), (by decide : (0 : Int) ≤ 2147483647)⟩
theorem zr_23 : ∀ j, rR 23 j = 0 := fun j => rfl
theorem df_7 : ∀ j, j < 2 → defaultValue (tyX7 j) = (if fT 7 j = 0 then Value.int 0 else if fT 7 j = 1 then .long 0 else .null) := by
  intro j hj
  rcases (show j = 0 ∨ j = 1 by omega) with rfl | rfl <;> rfl
theorem zz_24 : ∀ j, rLo 24 j ≤ 0 ∧ 0 ≤ rHi 24 j := fun j => ⟨(by decide : (-2147483648 : Int) ≤ 0), (by decide : (0 : Int) ≤ 2147483647)⟩
theorem zr_24 : ∀ j, rR 24 j = 0 := fun j => rfl
theorem df_8 : ∀ j, j < 3 → defaultValue (tyX8 j) = (if fT 8 j = 0 then Value.int 0 else if fT 8 j = 1 then .long 0 else .null) := by
  intro j hj
  rcases (show j = 0 ∨ j = 1 ∨ j = 2 by omega) with rfl | rfl | rfl <;> rfl
theorem zz_25 : ∀ j, rLo 25 j ≤ 0 ∧ 0 ≤ rHi 25 j := fun j => ⟨(by decide : (-2147483648 : Int) ≤ 0), (by decide : (0 : Int) ≤ 2147483647)⟩
theorem zr_25 : ∀ j, rR 25 j = 0 := fun j => rfl
theorem df_9 : ∀ j, j < 7 → defaultValue (tyX9 j) = (if fT 9 j = 0 then Value.int 0 else if fT 9 j = 1 then .long 0 else .null) := by
  intro j hj
  rcases (show j = 0 ∨ j = 1 ∨ j = 2 ∨ j = 3 ∨ j = 4 ∨ j = 5 ∨ j = 6 by omega) with rfl | rfl | rfl | rfl | rfl | rfl | rfl <;> rfl
theorem zz_26 : ∀ j, rLo 26 j ≤ 0 ∧ 0 ≤ rHi 26 j := fun j => ⟨(by decide : (-2147483648 : Int) ≤ 0), (by decide : (0 : Int) ≤ 2147483647)⟩
theorem zr_26 : ∀ j, rR 26 j = 0 := fun j => rfl
theorem df_10 : ∀ j, j < 9 → defaultValue (tyX10 j) = (if fT 10 j = 0 then Value.int 0 else if fT 10 j = 1 then .long 0 else .null) := by
  intro j hj
  rcases (show j = 0 ∨ j = 1 ∨ j = 2 ∨ j = 3 ∨ j = 4 ∨ j = 5 ∨ j = 6 ∨ j = 7 ∨ j = 8 by omega) with rfl | rfl | rfl | rfl | rfl | rfl | rfl | rfl | rfl <;> rfl
theorem zz_27 : ∀ j, rLo 27 j ≤ 0 ∧ 0 ≤ rHi 27 j := fun j => ⟨(by decide : (-2147483648 : Int) ≤ 0), (by decide : (0 : Int) ≤ 2147483647)⟩
theorem zr_27 : ∀ j, rR 27 j = 0 := fun j => rfl
theorem df_11 : ∀ j, j < 56 → defaultValue (tyX11 j) = (if fT 11 j = 0 then Value.int 0 else if fT 11 j = 1 then .long 0 else .null) := by
  intro j hj
  rcases (show j = 0 ∨ j = 1 ∨ j = 2 ∨ j = 3 ∨ j = 4 ∨ j = 5 ∨ j = 6 ∨ j = 7 ∨ j = 8 ∨ j = 9 ∨ j = 10 ∨ j = 11 ∨ j = 12 ∨ j = 13 ∨ j = 14 ∨ j = 15 ∨ j = 16 ∨ j = 17 ∨ j = 18 ∨ j = 19 ∨ j = 20 ∨ j = 21 ∨ j = 22 ∨ j = 23 ∨ j = 24 ∨ j = 25 ∨ j = 26 ∨ j = 27 ∨ j = 28 ∨ j = 29 ∨ j = 30 ∨ j = 31 ∨ j = 32 ∨ j = 33 ∨ j = 34 ∨ j = 35 ∨ j = 36 ∨ j = 37 ∨ j = 38 ∨ j = 39 ∨ j = 40 ∨ j = 41 ∨ j = 42 ∨ j = 43 ∨ j = 44 ∨ j = 45 ∨ j = 46 ∨ j = 47 ∨ j = 48 ∨ j = 49 ∨ j = 50 ∨ j = 51 ∨ j = 52 ∨ j = 53 ∨ j = 54 ∨ j = 55 by omega) with rfl | rfl | rfl | rfl | rfl | rfl | rfl | rfl | rfl | rfl | rfl | rfl | rfl | rfl | rfl | rfl | rfl | rfl | rfl | rfl | rfl | rfl | rfl | rfl | rfl | rfl | rfl | rfl | rfl | rfl | rfl | rfl | rfl | rfl | rfl | rfl | rfl | rfl | rfl | rfl | rfl | rfl | rfl | rfl | rfl | rfl | rfl | rfl | rfl | rfl | rfl | rfl | rfl | rfl | rfl | rfl <;> rfl
