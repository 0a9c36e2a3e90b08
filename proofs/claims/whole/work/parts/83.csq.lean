/-! the class: calls that suppose -/
/-- all but what is supposed -/
def mfs (I J : Ix) (s : Nat) : Prop := ∀ y z, (y = s → z ≠ 13) → (y ≠ s + 73 ∧ y ≠ s + 74) → J y z = I y z
theorem mfs.s13 {I : Ix} {s : Nat} {v : Int} : mfs I (up I s 13 v) s := fun y z h1 _ => by
  by_cases hy : y = s
  · rw [hy, up_nj (h1 hy)]
  · rw [up_no hy]
theorem mfs.w {I J : Ix} {s x j : Nat} {v : Int} (f : mfs I J s) (hx : x = s + 73 ∨ x = s + 74) : mfs I (up J x j v) s := fun y z h1 h2 => by
  rw [up_no (by omega)]; exact f y z h1 h2
theorem mfs.fr {I J J' : Ix} {s : Nat} (f : mfs I J s) (g : fr J J' (s + 73) (s + 74)) : mfs I J' s := fun y z h1 h2 => by
  rw [g y (by omega) z]; exact f y z h1 h2
section CSQ
variable {xs : List Int} {S : List (Nat × Nat)} {T : Nat → Nat → Nat} {cc zz s q y : Nat} {h : Hi} {l : Li} {I I' : Ix}

theorem mx_161 : mxl 161 = 2 := by decide +kernel
theorem mt_161 : mtc 161 = 9 := by decide +kernel
theorem rk_161 (as : List AV) : rkA 161 as = 0 := rfl
theorem l_161_0 : look 161 0 = some (.iload_n 0, 1, 0, 0, 0, 0) := by decide +kernel
theorem l_161_1 : look 161 1 = some (.tableswitch 100 0 3 #[31, 48, 66, 83], 31, 0, 0, 0, 0) := by decide +kernel
theorem l_161_32 : look 161 32 = some (.iload_n 1, 1, 0, 0, 0, 0) := by decide +kernel
theorem l_161_33 : look 161 33 = some (.iconst 1, 1, 0, 0, 0, 0) := by decide +kernel
theorem l_161_34 : look 161 34 = some (.if_icmp .lt 13, 3, 0, 0, 0, 0) := by decide +kernel
theorem l_161_37 : look 161 37 = some (.iload_n 1, 1, 0, 0, 0, 0) := by decide +kernel
theorem l_161_38 : look 161 38 = some (.bipush 99, 2, 0, 0, 0, 0) := by decide +kernel
theorem l_161_40 : look 161 40 = some (.if_icmp .gt 7, 3, 0, 0, 0, 0) := by decide +kernel
theorem l_161_43 : look 161 43 = some (.iconst 1, 1, 0, 0, 0, 0) := by decide +kernel
theorem l_161_44 : look 161 44 = some (.goto 4, 3, 0, 0, 0, 0) := by decide +kernel
theorem l_161_47 : look 161 47 = some (.iconst 0, 1, 0, 0, 0, 0) := by decide +kernel
theorem l_161_48 : look 161 48 = some (.ireturn, 1, 0, 0, 1, 0) := by decide +kernel
theorem l_161_49 : look 161 49 = some (.iload_n 1, 1, 0, 0, 0, 0) := by decide +kernel
theorem l_161_50 : look 161 50 = some (.iconst 1, 1, 0, 0, 0, 0) := by decide +kernel
theorem l_161_51 : look 161 51 = some (.if_icmp .lt 14, 3, 0, 0, 0, 0) := by decide +kernel
theorem l_161_54 : look 161 54 = some (.iload_n 1, 1, 0, 0, 0, 0) := by decide +kernel
theorem l_161_55 : look 161 55 = some (.sipush 400, 3, 0, 0, 0, 0) := by decide +kernel
theorem l_161_58 : look 161 58 = some (.if_icmp .gt 7, 3, 0, 0, 0, 0) := by decide +kernel
theorem l_161_61 : look 161 61 = some (.iconst 1, 1, 0, 0, 0, 0) := by decide +kernel
theorem l_161_62 : look 161 62 = some (.goto 4, 3, 0, 0, 0, 0) := by decide +kernel
theorem l_161_65 : look 161 65 = some (.iconst 0, 1, 0, 0, 0, 0) := by decide +kernel
theorem l_161_66 : look 161 66 = some (.ireturn, 1, 0, 0, 1, 0) := by decide +kernel
theorem l_161_67 : look 161 67 = some (.iload_n 1, 1, 0, 0, 0, 0) := by decide +kernel
theorem l_161_68 : look 161 68 = some (.iconst 1, 1, 0, 0, 0, 0) := by decide +kernel
theorem l_161_69 : look 161 69 = some (.if_icmp .lt 13, 3, 0, 0, 0, 0) := by decide +kernel
theorem l_161_72 : look 161 72 = some (.iload_n 1, 1, 0, 0, 0, 0) := by decide +kernel
theorem l_161_73 : look 161 73 = some (.bipush 99, 2, 0, 0, 0, 0) := by decide +kernel
theorem l_161_75 : look 161 75 = some (.if_icmp .gt 7, 3, 0, 0, 0, 0) := by decide +kernel
theorem l_161_78 : look 161 78 = some (.iconst 1, 1, 0, 0, 0, 0) := by decide +kernel
theorem l_161_79 : look 161 79 = some (.goto 4, 3, 0, 0, 0, 0) := by decide +kernel
theorem l_161_82 : look 161 82 = some (.iconst 0, 1, 0, 0, 0, 0) := by decide +kernel
theorem l_161_83 : look 161 83 = some (.ireturn, 1, 0, 0, 1, 0) := by decide +kernel
theorem l_161_84 : look 161 84 = some (.iload_n 1, 1, 0, 0, 0, 0) := by decide +kernel
theorem l_161_85 : look 161 85 = some (.ifCond .lt 14, 3, 0, 0, 0, 0) := by decide +kernel
theorem l_161_88 : look 161 88 = some (.iload_n 1, 1, 0, 0, 0, 0) := by decide +kernel
theorem l_161_89 : look 161 89 = some (.sipush 999, 3, 0, 0, 0, 0) := by decide +kernel
theorem l_161_92 : look 161 92 = some (.if_icmp .gt 7, 3, 0, 0, 0, 0) := by decide +kernel
theorem l_161_95 : look 161 95 = some (.iconst 1, 1, 0, 0, 0, 0) := by decide +kernel
theorem l_161_96 : look 161 96 = some (.goto 4, 3, 0, 0, 0, 0) := by decide +kernel
theorem l_161_99 : look 161 99 = some (.iconst 0, 1, 0, 0, 0, 0) := by decide +kernel
theorem l_161_100 : look 161 100 = some (.ireturn, 1, 0, 0, 1, 0) := by decide +kernel
theorem l_161_101 : look 161 101 = some (.iconst 1, 1, 0, 0, 0, 0) := by decide +kernel
theorem l_161_102 : look 161 102 = some (.ireturn, 1, 0, 0, 1, 0) := by decide +kernel

theorem s_161_0 {v : Int} (hv : 1 ≤ v ∧ v ≤ 99) : CL xs 161 [vi 0, vi v] (S, I, T, cc, zz) (FN (some (vi 1)) (S, I, T, cc, zz)) := by
  refine CL_start (r := 0) (ls := [vi 0, vi v]) (rk_161 _) rfl ?_
  refine w_iln l_161_0 rfl ?_
  refine w_swi 32 l_161_1 (by decide) rfl (by decide) ?_
  refine w_iln l_161_32 rfl ?_
  refine w_ic l_161_33 (by decide) ?_
  refine w_clt 47 l_161_34 (by decide) (fun h1 => ?_) (fun h1 => ?_)
  · skip
    refine w_ic l_161_47 (by decide) ?_
    refine w_ir l_161_48 (by decide) ?_
    first
      | exact ⟨rfl, rfl⟩
      | (exfalso; omega)
  · skip
    refine w_iln l_161_37 rfl ?_
    refine w_bp l_161_38 (by decide) ?_
    refine w_cgt 47 l_161_40 (by decide) (fun h2 => ?_) (fun h2 => ?_)
    · skip
      refine w_ic l_161_47 (by decide) ?_
      refine w_ir l_161_48 (by decide) ?_
      first
        | exact ⟨rfl, rfl⟩
        | (exfalso; omega)
    · skip
      refine w_ic l_161_43 (by decide) ?_
      refine w_go 48 l_161_44 (by decide) ?_
      refine w_ir l_161_48 (by decide) ?_
      first
        | exact ⟨rfl, rfl⟩
        | (exfalso; omega)

theorem s_161_0n {v : Int} (hv : ¬ (1 ≤ v ∧ v ≤ 99)) : CL xs 161 [vi 0, vi v] (S, I, T, cc, zz) (FN (some (vi 0)) (S, I, T, cc, zz)) := by
  refine CL_start (r := 0) (ls := [vi 0, vi v]) (rk_161 _) rfl ?_
  refine w_iln l_161_0 rfl ?_
  refine w_swi 32 l_161_1 (by decide) rfl (by decide) ?_
  refine w_iln l_161_32 rfl ?_
  refine w_ic l_161_33 (by decide) ?_
  refine w_clt 47 l_161_34 (by decide) (fun h1 => ?_) (fun h1 => ?_)
  · skip
    refine w_ic l_161_47 (by decide) ?_
    refine w_ir l_161_48 (by decide) ?_
    first
      | exact ⟨rfl, rfl⟩
      | (exfalso; omega)
  · skip
    refine w_iln l_161_37 rfl ?_
    refine w_bp l_161_38 (by decide) ?_
    refine w_cgt 47 l_161_40 (by decide) (fun h2 => ?_) (fun h2 => ?_)
    · skip
      refine w_ic l_161_47 (by decide) ?_
      refine w_ir l_161_48 (by decide) ?_
      first
        | exact ⟨rfl, rfl⟩
        | (exfalso; omega)
    · skip
      refine w_ic l_161_43 (by decide) ?_
      refine w_go 48 l_161_44 (by decide) ?_
      refine w_ir l_161_48 (by decide) ?_
      first
        | exact ⟨rfl, rfl⟩
        | (exfalso; omega)

theorem s_161_1 {v : Int} (hv : 1 ≤ v ∧ v ≤ 400) : CL xs 161 [vi 1, vi v] (S, I, T, cc, zz) (FN (some (vi 1)) (S, I, T, cc, zz)) := by
  refine CL_start (r := 0) (ls := [vi 1, vi v]) (rk_161 _) rfl ?_
  refine w_iln l_161_0 rfl ?_
  refine w_swi 49 l_161_1 (by decide) rfl (by decide) ?_
  refine w_iln l_161_49 rfl ?_
  refine w_ic l_161_50 (by decide) ?_
  refine w_clt 65 l_161_51 (by decide) (fun h1 => ?_) (fun h1 => ?_)
  · skip
    refine w_ic l_161_65 (by decide) ?_
    refine w_ir l_161_66 (by decide) ?_
    first
      | exact ⟨rfl, rfl⟩
      | (exfalso; omega)
  · skip
    refine w_iln l_161_54 rfl ?_
    refine w_sp l_161_55 (by decide) ?_
    refine w_cgt 65 l_161_58 (by decide) (fun h2 => ?_) (fun h2 => ?_)
    · skip
      refine w_ic l_161_65 (by decide) ?_
      refine w_ir l_161_66 (by decide) ?_
      first
        | exact ⟨rfl, rfl⟩
        | (exfalso; omega)
    · skip
      refine w_ic l_161_61 (by decide) ?_
      refine w_go 66 l_161_62 (by decide) ?_
      refine w_ir l_161_66 (by decide) ?_
      first
        | exact ⟨rfl, rfl⟩
        | (exfalso; omega)

theorem s_161_1n {v : Int} (hv : ¬ (1 ≤ v ∧ v ≤ 400)) : CL xs 161 [vi 1, vi v] (S, I, T, cc, zz) (FN (some (vi 0)) (S, I, T, cc, zz)) := by
  refine CL_start (r := 0) (ls := [vi 1, vi v]) (rk_161 _) rfl ?_
  refine w_iln l_161_0 rfl ?_
  refine w_swi 49 l_161_1 (by decide) rfl (by decide) ?_
  refine w_iln l_161_49 rfl ?_
  refine w_ic l_161_50 (by decide) ?_
  refine w_clt 65 l_161_51 (by decide) (fun h1 => ?_) (fun h1 => ?_)
  · skip
    refine w_ic l_161_65 (by decide) ?_
    refine w_ir l_161_66 (by decide) ?_
    first
      | exact ⟨rfl, rfl⟩
      | (exfalso; omega)
  · skip
    refine w_iln l_161_54 rfl ?_
    refine w_sp l_161_55 (by decide) ?_
    refine w_cgt 65 l_161_58 (by decide) (fun h2 => ?_) (fun h2 => ?_)
    · skip
      refine w_ic l_161_65 (by decide) ?_
      refine w_ir l_161_66 (by decide) ?_
      first
        | exact ⟨rfl, rfl⟩
        | (exfalso; omega)
    · skip
      refine w_ic l_161_61 (by decide) ?_
      refine w_go 66 l_161_62 (by decide) ?_
      refine w_ir l_161_66 (by decide) ?_
      first
        | exact ⟨rfl, rfl⟩
        | (exfalso; omega)

theorem s_161_2 {v : Int} (hv : 1 ≤ v ∧ v ≤ 99) : CL xs 161 [vi 2, vi v] (S, I, T, cc, zz) (FN (some (vi 1)) (S, I, T, cc, zz)) := by
  refine CL_start (r := 0) (ls := [vi 2, vi v]) (rk_161 _) rfl ?_
  refine w_iln l_161_0 rfl ?_
  refine w_swi 67 l_161_1 (by decide) rfl (by decide) ?_
  refine w_iln l_161_67 rfl ?_
  refine w_ic l_161_68 (by decide) ?_
  refine w_clt 82 l_161_69 (by decide) (fun h1 => ?_) (fun h1 => ?_)
  · skip
    refine w_ic l_161_82 (by decide) ?_
    refine w_ir l_161_83 (by decide) ?_
    first
      | exact ⟨rfl, rfl⟩
      | (exfalso; omega)
  · skip
    refine w_iln l_161_72 rfl ?_
    refine w_bp l_161_73 (by decide) ?_
    refine w_cgt 82 l_161_75 (by decide) (fun h2 => ?_) (fun h2 => ?_)
    · skip
      refine w_ic l_161_82 (by decide) ?_
      refine w_ir l_161_83 (by decide) ?_
      first
        | exact ⟨rfl, rfl⟩
        | (exfalso; omega)
    · skip
      refine w_ic l_161_78 (by decide) ?_
      refine w_go 83 l_161_79 (by decide) ?_
      refine w_ir l_161_83 (by decide) ?_
      first
        | exact ⟨rfl, rfl⟩
        | (exfalso; omega)

theorem s_161_2n {v : Int} (hv : ¬ (1 ≤ v ∧ v ≤ 99)) : CL xs 161 [vi 2, vi v] (S, I, T, cc, zz) (FN (some (vi 0)) (S, I, T, cc, zz)) := by
  refine CL_start (r := 0) (ls := [vi 2, vi v]) (rk_161 _) rfl ?_
  refine w_iln l_161_0 rfl ?_
  refine w_swi 67 l_161_1 (by decide) rfl (by decide) ?_
  refine w_iln l_161_67 rfl ?_
  refine w_ic l_161_68 (by decide) ?_
  refine w_clt 82 l_161_69 (by decide) (fun h1 => ?_) (fun h1 => ?_)
  · skip
    refine w_ic l_161_82 (by decide) ?_
    refine w_ir l_161_83 (by decide) ?_
    first
      | exact ⟨rfl, rfl⟩
      | (exfalso; omega)
  · skip
    refine w_iln l_161_72 rfl ?_
    refine w_bp l_161_73 (by decide) ?_
    refine w_cgt 82 l_161_75 (by decide) (fun h2 => ?_) (fun h2 => ?_)
    · skip
      refine w_ic l_161_82 (by decide) ?_
      refine w_ir l_161_83 (by decide) ?_
      first
        | exact ⟨rfl, rfl⟩
        | (exfalso; omega)
    · skip
      refine w_ic l_161_78 (by decide) ?_
      refine w_go 83 l_161_79 (by decide) ?_
      refine w_ir l_161_83 (by decide) ?_
      first
        | exact ⟨rfl, rfl⟩
        | (exfalso; omega)

theorem s_161_3 {v : Int} (hv : 0 ≤ v ∧ v ≤ 999) : CL xs 161 [vi 3, vi v] (S, I, T, cc, zz) (FN (some (vi 1)) (S, I, T, cc, zz)) := by
  refine CL_start (r := 0) (ls := [vi 3, vi v]) (rk_161 _) rfl ?_
  refine w_iln l_161_0 rfl ?_
  refine w_swi 84 l_161_1 (by decide) rfl (by decide) ?_
  refine w_iln l_161_84 rfl ?_
  refine w_zlt 99 l_161_85 (by decide) (fun h1 => ?_) (fun h1 => ?_)
  · skip
    refine w_ic l_161_99 (by decide) ?_
    refine w_ir l_161_100 (by decide) ?_
    first
      | exact ⟨rfl, rfl⟩
      | (exfalso; omega)
  · skip
    refine w_iln l_161_88 rfl ?_
    refine w_sp l_161_89 (by decide) ?_
    refine w_cgt 99 l_161_92 (by decide) (fun h2 => ?_) (fun h2 => ?_)
    · skip
      refine w_ic l_161_99 (by decide) ?_
      refine w_ir l_161_100 (by decide) ?_
      first
        | exact ⟨rfl, rfl⟩
        | (exfalso; omega)
    · skip
      refine w_ic l_161_95 (by decide) ?_
      refine w_go 100 l_161_96 (by decide) ?_
      refine w_ir l_161_100 (by decide) ?_
      first
        | exact ⟨rfl, rfl⟩
        | (exfalso; omega)

theorem s_161_3n {v : Int} (hv : ¬ (0 ≤ v ∧ v ≤ 999)) : CL xs 161 [vi 3, vi v] (S, I, T, cc, zz) (FN (some (vi 0)) (S, I, T, cc, zz)) := by
  refine CL_start (r := 0) (ls := [vi 3, vi v]) (rk_161 _) rfl ?_
  refine w_iln l_161_0 rfl ?_
  refine w_swi 84 l_161_1 (by decide) rfl (by decide) ?_
  refine w_iln l_161_84 rfl ?_
  refine w_zlt 99 l_161_85 (by decide) (fun h1 => ?_) (fun h1 => ?_)
  · skip
    refine w_ic l_161_99 (by decide) ?_
    refine w_ir l_161_100 (by decide) ?_
    first
      | exact ⟨rfl, rfl⟩
      | (exfalso; omega)
  · skip
    refine w_iln l_161_88 rfl ?_
    refine w_sp l_161_89 (by decide) ?_
    refine w_cgt 99 l_161_92 (by decide) (fun h2 => ?_) (fun h2 => ?_)
    · skip
      refine w_ic l_161_99 (by decide) ?_
      refine w_ir l_161_100 (by decide) ?_
      first
        | exact ⟨rfl, rfl⟩
        | (exfalso; omega)
    · skip
      refine w_ic l_161_95 (by decide) ?_
      refine w_go 100 l_161_96 (by decide) ?_
      refine w_ir l_161_100 (by decide) ?_
      first
        | exact ⟨rfl, rfl⟩
        | (exfalso; omega)

theorem s_161_4 {v : Int}  : CL xs 161 [vi 4, vi v] (S, I, T, cc, zz) (FN (some (vi 1)) (S, I, T, cc, zz)) := by
  refine CL_start (r := 0) (ls := [vi 4, vi v]) (rk_161 _) rfl ?_
  refine w_iln l_161_0 rfl ?_
  refine w_swd 101 l_161_1 (by decide) (by decide) ?_
  refine w_ic l_161_101 (by decide) ?_
  refine w_ir l_161_102 (by decide) ?_
  first
    | exact ⟨rfl, rfl⟩
    | (exfalso; omega)

theorem mx_132 : mxl 132 = 2 := by decide +kernel
theorem mt_132 : mtc 132 = 9 := by decide +kernel
theorem rk_132 (as : List AV) : rkA 132 as = 1 := rfl
theorem l_132_0 : look 132 0 = some (.aload_n 0, 1, 0, 0, 0, 0) := by decide +kernel
theorem l_132_1 : look 132 1 = some (.iload_n 1, 1, 0, 0, 0, 0) := by decide +kernel
theorem l_132_2 : look 132 2 = some (.invokevirtual 190, 3, 149, 2, 0, 1173) := by decide +kernel
theorem l_132_5 : look 132 5 = some (.aload_n 0, 1, 0, 0, 0, 0) := by decide +kernel
theorem l_132_6 : look 132 6 = some (.iconst 0, 1, 0, 0, 0, 0) := by decide +kernel
theorem l_132_7 : look 132 7 = some (.putfield 77, 3, 9, 13, 0, 551) := by decide +kernel
theorem l_132_10 : look 132 10 = some (.aload_n 0, 1, 0, 0, 0, 0) := by decide +kernel
theorem l_132_11 : look 132 11 = some (.getfield 67, 3, 9, 10, 2, 548) := by decide +kernel
theorem l_132_14 : look 132 14 = some (.getfield 277, 3, 8, 1, 2, 473) := by decide +kernel
theorem l_132_17 : look 132 17 = some (.iload_n 1, 1, 0, 0, 0, 0) := by decide +kernel
theorem l_132_18 : look 132 18 = some (.iconst 1, 1, 0, 0, 0, 0) := by decide +kernel
theorem l_132_19 : look 132 19 = some (.bastore, 1, 0, 0, 0, 0) := by decide +kernel
theorem l_132_20 : look 132 20 = some (.aload_n 0, 1, 0, 0, 0, 0) := by decide +kernel
theorem l_132_21 : look 132 21 = some (.getfield 67, 3, 9, 10, 2, 548) := by decide +kernel
theorem l_132_24 : look 132 24 = some (.invokevirtual 281, 3, 95, 1, 0, 630) := by decide +kernel
theorem l_132_27 : look 132 27 = some (.ireturn, 1, 0, 0, 0, 0) := by decide +kernel

theorem s_132 (o : oDropSwitch S T s q y) {ne np : Nat} {a : Nat → Nat} (K : KQ I s q h l a ne np) {e : Nat} (he : e < ne) {su : Su} (hS : cSu I (s + 72) su) : CL xs 132 [vr s, vi ((e : Nat) : Int)] (S, I, T, cc, zz) (RP S T cc zz (fun v9 I' => v9 = some (vi ((outN (suOut su e) : Nat) : Int)) ∧ cSu I' (s + 72) (suOut su e) ∧ I' s 13 = 0 ∧ mfs I I' s)) := by
  refine CL_start (r := 1) (ls := [vr s, vi ((e : Nat) : Int)]) (rk_132 _) rfl ?_
  have hl4 := K.2.2.2.2.2.2.2.1.1
  have hne := K.2.2.1.2.2.1
  have h0 : cSu (up I s 13 0) (s + 72) su := hS.fr ((fr.rf I s s).up (Nat.le_refl _) (Nat.le_refl _)) (Or.inl (by omega))
  refine w_aln l_132_0 rfl ?_
  refine w_iln l_132_1 rfl ?_
  refine q_iv [vi ((e : Nat) : Int)] [] l_132_2 rfl rfl (Nat.le_of_ble_eq_true rfl) (by rw [mx_149]; exact Nat.le_of_ble_eq_true rfl) (by rw [mt_149]; exact oDropSwitch_sh o) (by rw [mt_149]; decide) (by rw [rk_149]; decide) (s_149 o K he) ?_
  refine w_aln l_132_5 rfl ?_
  refine w_ic l_132_6 (by decide) ?_
  refine w_pi l_132_7 (oDropSwitch_sh o) ?_
  refine w_aln l_132_10 rfl ?_
  refine w_gr l_132_11 (oDropSwitch_sh o) (oDropSwitch_r10 o) ?_
  refine w_gr l_132_14 (oSuppositions_sh (oDropSwitch_o10 o)) (oSuppositions_r1 (oDropSwitch_o10 o)) ?_
  refine w_iln l_132_17 rfl ?_
  refine w_ic l_132_18 (by decide) ?_
  refine w_zS e 1 l_132_19 (oSuppositions_s1 (oDropSwitch_o10 o)) rfl (by omega) (by decide) ?_
  refine w_aln l_132_20 rfl ?_
  refine w_gr l_132_21 (oDropSwitch_sh o) (oDropSwitch_r10 o) ?_
  refine q_iv [] [] l_132_24 rfl rfl (Nat.le_of_ble_eq_true rfl) (by rw [mx_95]; exact Nat.le_of_ble_eq_true rfl) (by rw [mt_95]; exact oSuppositions_sh (oDropSwitch_o10 o)) (by rw [mt_95]; decide) (by rw [rk_95]; decide) (s_95 (oDropSwitch_o10 o) (cSu_out h0)) ?_
  refine w_ir l_132_27 (Or.inl rfl) ?_
  exact ⟨_, _, rfl, rfl, rfl, cSu_out h0, by rw [up_no (by omega), up_eq], mfs.s13.w (Or.inr rfl)⟩

theorem s_132n (o : oDropSwitch S T s q y) {ne np : Nat} {a : Nat → Nat} (K : KQ I s q h l a ne np) {p : Int} (hp : ¬ (0 ≤ p ∧ p < ((ne : Nat) : Int))) (hc : 1 ≤ cc ∧ 6 ≤ zz) : CL xs 132 [vr s, vi p] (S, I, T, cc, zz) (TH 0 (S, I, T, cc - 1, zz - 6)) := by
  refine CL_start (r := 1) (ls := [vr s, vi p]) (rk_132 _) rfl ?_
  refine w_aln l_132_0 rfl ?_
  refine w_iln l_132_1 rfl ?_
  refine t_iv [vi p] [] l_132_2 rfl rfl (Nat.le_of_ble_eq_true rfl) (by rw [mx_149]; exact Nat.le_of_ble_eq_true rfl) (by rw [mt_149]; exact oDropSwitch_sh o) (by rw [mt_149]; decide) (by rw [rk_149]; decide) (s_149n o K hp hc) (by decide +kernel) ?_
  exact ⟨rfl, rfl⟩

theorem mx_133 : mxl 133 = 2 := by decide +kernel
theorem mt_133 : mtc 133 = 9 := by decide +kernel
theorem rk_133 (as : List AV) : rkA 133 as = 2 := rfl
theorem l_133_0 : look 133 0 = some (.aload_n 0, 1, 0, 0, 0, 0) := by decide +kernel
theorem l_133_1 : look 133 1 = some (.getfield 67, 3, 9, 10, 2, 548) := by decide +kernel
theorem l_133_4 : look 133 4 = some (.invokevirtual 274, 3, 94, 1, 0, 626) := by decide +kernel
theorem l_133_7 : look 133 7 = some (.aload_n 0, 1, 0, 0, 0, 0) := by decide +kernel
theorem l_133_8 : look 133 8 = some (.getfield 67, 3, 9, 10, 2, 548) := by decide +kernel
theorem l_133_11 : look 133 11 = some (.invokevirtual 281, 3, 95, 1, 0, 630) := by decide +kernel
theorem l_133_14 : look 133 14 = some (.iadd, 1, 0, 0, 0, 0) := by decide +kernel
theorem l_133_15 : look 133 15 = some (.istore_n 1, 1, 0, 0, 0, 0) := by decide +kernel
theorem l_133_16 : look 133 16 = some (.aload_n 0, 1, 0, 0, 0, 0) := by decide +kernel
theorem l_133_17 : look 133 17 = some (.iconst 0, 1, 0, 0, 0, 0) := by decide +kernel
theorem l_133_18 : look 133 18 = some (.putfield 77, 3, 9, 13, 0, 551) := by decide +kernel
theorem l_133_21 : look 133 21 = some (.aload_n 0, 1, 0, 0, 0, 0) := by decide +kernel
theorem l_133_22 : look 133 22 = some (.getfield 67, 3, 9, 10, 2, 548) := by decide +kernel
theorem l_133_25 : look 133 25 = some (.invokevirtual 180, 3, 92, 1, 0, 505) := by decide +kernel
theorem l_133_28 : look 133 28 = some (.iload_n 1, 1, 0, 0, 0, 0) := by decide +kernel
theorem l_133_29 : look 133 29 = some (.ireturn, 1, 0, 0, 0, 0) := by decide +kernel

theorem s_133 (o : oDropSwitch S T s q y) {ne np : Nat} {a : Nat → Nat} (K : KQ I s q h l a ne np) {su : Su} (hS : cSu I (s + 72) su) : CL xs 133 [vr s] (S, I, T, cc, zz) (RP S T cc zz (fun v9 I' => v9 = some (vi ((setN su + outN su : Nat) : Int)) ∧ cSu I' (s + 72) su0 ∧ I' s 13 = 0 ∧ mfs I I' s)) := by
  refine CL_start (r := 2) (ls := [vr s, vs 2]) (rk_133 _) rfl ?_
  have hl4 := K.2.2.2.2.2.2.2.1.1
  have hne := K.2.2.1.2.2.1
  have h0 : cSu (up I s 13 0) (s + 72) su := hS.fr ((fr.rf I s s).up (Nat.le_refl _) (Nat.le_refl _)) (Or.inl (by omega))
  have hb1 := sumN_le (f := fun p => oN (su.1 p)) (fun k => oN_le _) 4
  have hb2 := sumN_le (f := fun r => b2n (su.2.2.1 r)) (fun k => b2n_le _) 8
  have hb3 : outN su ≤ 120 := sumN_le (f := fun e => b2n (su.2.2.2 e)) (fun k => b2n_le _) 120
  have hb4 : setN su ≤ 15 := by
    have := oN_le su.2.1.1
    have := oN_le su.2.1.2.1
    have := oN_le su.2.1.2.2
    unfold setN
    omega
  refine w_aln l_133_0 rfl ?_
  refine w_gr l_133_1 (oDropSwitch_sh o) (oDropSwitch_r10 o) ?_
  refine q_iv [] [] l_133_4 rfl rfl (Nat.le_of_ble_eq_true rfl) (by rw [mx_94]; exact Nat.le_of_ble_eq_true rfl) (by rw [mt_94]; exact oSuppositions_sh (oDropSwitch_o10 o)) (by rw [mt_94]; decide) (by rw [rk_94]; decide) (s_94 (oDropSwitch_o10 o) hS) ?_
  refine w_aln l_133_7 rfl ?_
  refine w_gr l_133_8 (oDropSwitch_sh o) (oDropSwitch_r10 o) ?_
  refine q_iv [] [vi (((setN su) : Nat) : Int)] l_133_11 rfl rfl (Nat.le_of_ble_eq_true rfl) (by rw [mx_95]; exact Nat.le_of_ble_eq_true rfl) (by rw [mt_95]; exact oSuppositions_sh (oDropSwitch_o10 o)) (by rw [mt_95]; decide) (by rw [rk_95]; decide) (s_95 (oDropSwitch_o10 o) hS) ?_
  refine w_add (((setN su) + (outN su) : Nat) : Int) l_133_14 (by unfold wr; omega) ?_
  refine w_isn l_133_15 ⟨Nat.le_of_ble_eq_true rfl, rfl⟩ ?_
  refine w_aln l_133_16 rfl ?_
  refine w_ic l_133_17 (by decide) ?_
  refine w_pi l_133_18 (oDropSwitch_sh o) ?_
  refine w_aln l_133_21 rfl ?_
  refine w_gr l_133_22 (oDropSwitch_sh o) (oDropSwitch_r10 o) ?_
  refine p_iv [] [] l_133_25 rfl rfl (Nat.le_of_ble_eq_true rfl) (by rw [mx_92]; exact Nat.le_of_ble_eq_true rfl) (by rw [mt_92]; exact oSuppositions_sh (oDropSwitch_o10 o)) (by rw [mt_92]; decide) (by rw [rk_92]; decide) (r_92 (oDropSwitch_o10 o)) (fun v I1 hv => ?_)
  obtain ⟨rfl, k1, f1⟩ := hv
  refine w_iln l_133_28 rfl ?_
  refine w_ir l_133_29 (Or.inl rfl) ?_
  exact ⟨_, _, rfl, rfl, rfl, k1, by rw [f1 s (by omega), up_eq], mfs.s13.fr f1⟩

theorem mx_131 : mxl 131 = 4 := by decide +kernel
theorem mt_131 : mtc 131 = 9 := by decide +kernel
theorem rk_131 (as : List AV) : rkA 131 as = 1 := rfl
theorem l_131_0 : look 131 0 = some (.iload_n 1, 1, 0, 0, 0, 0) := by decide +kernel
theorem l_131_1 : look 131 1 = some (.ifCond .lt 8, 3, 0, 0, 0, 0) := by decide +kernel
theorem l_131_4 : look 131 4 = some (.iload_n 1, 1, 0, 0, 0, 0) := by decide +kernel
theorem l_131_5 : look 131 5 = some (.iconst 4, 1, 0, 0, 0, 0) := by decide +kernel
theorem l_131_6 : look 131 6 = some (.if_icmp .le 11, 3, 0, 0, 0, 0) := by decide +kernel
theorem l_131_9 : look 131 9 = some (.new 147, 3, 3, 0, 1, 1045) := by decide +kernel
theorem l_131_12 : look 131 12 = some (.dup, 1, 0, 0, 0, 0) := by decide +kernel
theorem l_131_13 : look 131 13 = some (.invokespecial 149, 3, 0, 1, 99, 1054) := by decide +kernel
theorem l_131_16 : look 131 16 = some (.athrow, 1, 0, 0, 0, 0) := by decide +kernel
theorem l_131_17 : look 131 17 = some (.iload_n 1, 1, 0, 0, 0, 0) := by decide +kernel
theorem l_131_18 : look 131 18 = some (.ifCond .ne 8, 3, 0, 0, 0, 0) := by decide +kernel
theorem l_131_21 : look 131 21 = some (.aload_n 0, 1, 0, 0, 0, 0) := by decide +kernel
theorem l_131_22 : look 131 22 = some (.iload_n 2, 1, 0, 0, 0, 0) := by decide +kernel
theorem l_131_23 : look 131 23 = some (.invokevirtual 150, 3, 147, 2, 0, 1069) := by decide +kernel
theorem l_131_26 : look 131 26 = some (.iload_n 1, 1, 0, 0, 0, 0) := by decide +kernel
theorem l_131_27 : look 131 27 = some (.iconst 4, 1, 0, 0, 0, 0) := by decide +kernel
theorem l_131_28 : look 131 28 = some (.if_icmp .ne 8, 3, 0, 0, 0, 0) := by decide +kernel
theorem l_131_31 : look 131 31 = some (.aload_n 0, 1, 0, 0, 0, 0) := by decide +kernel
theorem l_131_32 : look 131 32 = some (.iload_n 2, 1, 0, 0, 0, 0) := by decide +kernel
theorem l_131_33 : look 131 33 = some (.invokevirtual 249, 3, 148, 2, 0, 1296) := by decide +kernel
theorem l_131_36 : look 131 36 = some (.iload_n 1, 1, 0, 0, 0, 0) := by decide +kernel
theorem l_131_37 : look 131 37 = some (.iload_n 3, 1, 0, 0, 0, 0) := by decide +kernel
theorem l_131_38 : look 131 38 = some (.invokestatic 266, 3, 161, 2, 1, 1364) := by decide +kernel
theorem l_131_41 : look 131 41 = some (.ifCond .ne 11, 3, 0, 0, 0, 0) := by decide +kernel
theorem l_131_44 : look 131 44 = some (.new 109, 3, 1, 0, 1, 973) := by decide +kernel
theorem l_131_47 : look 131 47 = some (.dup, 1, 0, 0, 0, 0) := by decide +kernel
theorem l_131_48 : look 131 48 = some (.invokespecial 111, 3, 0, 1, 99, 1015) := by decide +kernel
theorem l_131_51 : look 131 51 = some (.athrow, 1, 0, 0, 0, 0) := by decide +kernel
theorem l_131_52 : look 131 52 = some (.aload_n 0, 1, 0, 0, 0, 0) := by decide +kernel
theorem l_131_53 : look 131 53 = some (.iconst 0, 1, 0, 0, 0, 0) := by decide +kernel
theorem l_131_54 : look 131 54 = some (.putfield 77, 3, 9, 13, 0, 551) := by decide +kernel
theorem l_131_57 : look 131 57 = some (.aload_n 0, 1, 0, 0, 0, 0) := by decide +kernel
theorem l_131_58 : look 131 58 = some (.getfield 67, 3, 9, 10, 2, 548) := by decide +kernel
theorem l_131_61 : look 131 61 = some (.iload_n 1, 1, 0, 0, 0, 0) := by decide +kernel
theorem l_131_62 : look 131 62 = some (.iload_n 2, 1, 0, 0, 0, 0) := by decide +kernel
theorem l_131_63 : look 131 63 = some (.iload_n 3, 1, 0, 0, 0, 0) := by decide +kernel
theorem l_131_64 : look 131 64 = some (.invokevirtual 270, 3, 93, 4, 0, 1367) := by decide +kernel
theorem l_131_67 : look 131 67 = some (.aload_n 0, 1, 0, 0, 0, 0) := by decide +kernel
theorem l_131_68 : look 131 68 = some (.getfield 67, 3, 9, 10, 2, 548) := by decide +kernel
theorem l_131_71 : look 131 71 = some (.invokevirtual 274, 3, 94, 1, 0, 626) := by decide +kernel
theorem l_131_74 : look 131 74 = some (.ireturn, 1, 0, 0, 0, 0) := by decide +kernel

theorem s_131_0 (o : oDropSwitch S T s q y) {ne np : Nat} {a : Nat → Nat} (K : KQ I s q h l a ne np) {p v : Nat} (hp : p < lPorts l) (hv : 1 ≤ v ∧ v ≤ 99) {su : Su} (hS : cSu I (s + 72) su) : CL xs 131 [vr s, vi 0, vi ((p : Nat) : Int), vi ((v : Nat) : Int)] (S, I, T, cc, zz) (RP S T cc zz (fun v9 I' => v9 = some (vi ((setN (suCap su p v) : Nat) : Int)) ∧ cSu I' (s + 72) (suCap su p v) ∧ I' s 13 = 0 ∧ mfs I I' s)) := by
  refine CL_start (r := 1) (ls := [vr s, vi 0, vi ((p : Nat) : Int), vi ((v : Nat) : Int)]) (rk_131 _) rfl ?_
  have hl4 := K.2.2.2.2.2.2.2.1.1
  have hne := K.2.2.1.2.2.1
  have h0 : cSu (up I s 13 0) (s + 72) su := hS.fr ((fr.rf I s s).up (Nat.le_refl _) (Nat.le_refl _)) (Or.inl (by omega))
  have hl8 := K.2.2.2.2.2.2.2.1.2.1
  refine w_iln l_131_0 rfl ?_
  refine w_zlt 9 l_131_1 (by decide) (fun hx => absurd hx (by decide)) (fun _ => ?_)
  refine w_iln l_131_4 rfl ?_
  refine w_ic l_131_5 (by decide) ?_
  refine w_cle 17 l_131_6 (by decide) (fun _ => ?_) (fun hx => absurd hx (by decide))
  refine w_iln l_131_17 rfl ?_
  refine w_zne 26 l_131_18 (by decide) (fun hx => absurd hx (by decide)) (fun _ => ?_)
  refine w_aln l_131_21 rfl ?_
  refine w_iln l_131_22 rfl ?_
  refine q_iv [vi ((p : Nat) : Int)] [] l_131_23 rfl rfl (Nat.le_of_ble_eq_true rfl) (by rw [mx_147]; exact Nat.le_of_ble_eq_true rfl) (by rw [mt_147]; exact oDropSwitch_sh o) (by rw [mt_147]; decide) (by rw [rk_147]; decide) (s_147 o K hp) ?_
  refine w_iln l_131_26 rfl ?_
  refine w_ic l_131_27 (by decide) ?_
  refine w_cne 36 l_131_28 (by decide) (fun _ => ?_) (fun hx => absurd hx (by decide))
  refine w_iln l_131_36 rfl ?_
  refine w_iln l_131_37 rfl ?_
  refine q_st [vi 0, vi ((v : Nat) : Int)] [] l_131_38 (by decide) rfl rfl (Nat.le_of_ble_eq_true rfl) (by rw [mx_161]; exact Nat.le_of_ble_eq_true rfl) (by rw [rk_161]; decide) (s_161_0 (by omega)) ?_
  refine w_zne 52 l_131_41 (by decide) (fun _ => ?_) (fun hx => absurd hx (by decide))
  refine w_aln l_131_52 rfl ?_
  refine w_ic l_131_53 (by decide) ?_
  refine w_pi l_131_54 (oDropSwitch_sh o) ?_
  refine w_aln l_131_57 rfl ?_
  refine w_gr l_131_58 (oDropSwitch_sh o) (oDropSwitch_r10 o) ?_
  refine w_iln l_131_61 rfl ?_
  refine w_iln l_131_62 rfl ?_
  refine w_iln l_131_63 rfl ?_
  refine q_iv [vi 0, vi ((p : Nat) : Int), vi ((v : Nat) : Int)] [] l_131_64 rfl rfl (Nat.le_of_ble_eq_true rfl) (by rw [mx_93]; exact Nat.le_of_ble_eq_true rfl) (by rw [mt_93]; exact oSuppositions_sh (oDropSwitch_o10 o)) (by rw [mt_93]; decide) (by rw [rk_93]; decide) (s_93_0 (oDropSwitch_o10 o) (by omega)) ?_
  refine w_aln l_131_67 rfl ?_
  refine w_gr l_131_68 (oDropSwitch_sh o) (oDropSwitch_r10 o) ?_
  refine q_iv [] [] l_131_71 rfl rfl (Nat.le_of_ble_eq_true rfl) (by rw [mx_94]; exact Nat.le_of_ble_eq_true rfl) (by rw [mt_94]; exact oSuppositions_sh (oDropSwitch_o10 o)) (by rw [mt_94]; decide) (by rw [rk_94]; decide) (s_94 (oDropSwitch_o10 o) (cSu_cap h0 (by omega))) ?_
  refine w_ir l_131_74 (Or.inl rfl) ?_
  exact ⟨_, _, rfl, rfl, rfl, cSu_cap h0 (by omega), by rw [up_no (by omega), up_eq], mfs.s13.w (Or.inl rfl)⟩

theorem s_131_1 (o : oDropSwitch S T s q y) {ne np : Nat} {a : Nat → Nat} (K : KQ I s q h l a ne np) {p : Int} {v : Nat} (hv : 1 ≤ v ∧ v ≤ 400) {su : Su} (hS : cSu I (s + 72) su) : CL xs 131 [vr s, vi 1, vi p, vi ((v : Nat) : Int)] (S, I, T, cc, zz) (RP S T cc zz (fun v9 I' => v9 = some (vi ((setN (suBuf su v) : Nat) : Int)) ∧ cSu I' (s + 72) (suBuf su v) ∧ I' s 13 = 0 ∧ mfs I I' s)) := by
  refine CL_start (r := 1) (ls := [vr s, vi 1, vi p, vi ((v : Nat) : Int)]) (rk_131 _) rfl ?_
  have hl4 := K.2.2.2.2.2.2.2.1.1
  have hne := K.2.2.1.2.2.1
  have h0 : cSu (up I s 13 0) (s + 72) su := hS.fr ((fr.rf I s s).up (Nat.le_refl _) (Nat.le_refl _)) (Or.inl (by omega))
  have hl8 := K.2.2.2.2.2.2.2.1.2.1
  refine w_iln l_131_0 rfl ?_
  refine w_zlt 9 l_131_1 (by decide) (fun hx => absurd hx (by decide)) (fun _ => ?_)
  refine w_iln l_131_4 rfl ?_
  refine w_ic l_131_5 (by decide) ?_
  refine w_cle 17 l_131_6 (by decide) (fun _ => ?_) (fun hx => absurd hx (by decide))
  refine w_iln l_131_17 rfl ?_
  refine w_zne 26 l_131_18 (by decide) (fun _ => ?_) (fun hx => absurd hx (by decide))
  refine w_iln l_131_26 rfl ?_
  refine w_ic l_131_27 (by decide) ?_
  refine w_cne 36 l_131_28 (by decide) (fun _ => ?_) (fun hx => absurd hx (by decide))
  refine w_iln l_131_36 rfl ?_
  refine w_iln l_131_37 rfl ?_
  refine q_st [vi 1, vi ((v : Nat) : Int)] [] l_131_38 (by decide) rfl rfl (Nat.le_of_ble_eq_true rfl) (by rw [mx_161]; exact Nat.le_of_ble_eq_true rfl) (by rw [rk_161]; decide) (s_161_1 (by omega)) ?_
  refine w_zne 52 l_131_41 (by decide) (fun _ => ?_) (fun hx => absurd hx (by decide))
  refine w_aln l_131_52 rfl ?_
  refine w_ic l_131_53 (by decide) ?_
  refine w_pi l_131_54 (oDropSwitch_sh o) ?_
  refine w_aln l_131_57 rfl ?_
  refine w_gr l_131_58 (oDropSwitch_sh o) (oDropSwitch_r10 o) ?_
  refine w_iln l_131_61 rfl ?_
  refine w_iln l_131_62 rfl ?_
  refine w_iln l_131_63 rfl ?_
  refine q_iv [vi 1, vi p, vi ((v : Nat) : Int)] [] l_131_64 rfl rfl (Nat.le_of_ble_eq_true rfl) (by rw [mx_93]; exact Nat.le_of_ble_eq_true rfl) (by rw [mt_93]; exact oSuppositions_sh (oDropSwitch_o10 o)) (by rw [mt_93]; decide) (by rw [rk_93]; decide) (s_93_1 (oDropSwitch_o10 o)) ?_
  refine w_aln l_131_67 rfl ?_
  refine w_gr l_131_68 (oDropSwitch_sh o) (oDropSwitch_r10 o) ?_
  refine q_iv [] [] l_131_71 rfl rfl (Nat.le_of_ble_eq_true rfl) (by rw [mx_94]; exact Nat.le_of_ble_eq_true rfl) (by rw [mt_94]; exact oSuppositions_sh (oDropSwitch_o10 o)) (by rw [mt_94]; decide) (by rw [rk_94]; decide) (s_94 (oDropSwitch_o10 o) (cSu_buf h0)) ?_
  refine w_ir l_131_74 (Or.inl rfl) ?_
  exact ⟨_, _, rfl, rfl, rfl, cSu_buf h0, by rw [up_no (by omega), up_eq], mfs.s13.w (Or.inl rfl)⟩

theorem s_131_2 (o : oDropSwitch S T s q y) {ne np : Nat} {a : Nat → Nat} (K : KQ I s q h l a ne np) {p : Int} {v : Nat} (hv : 1 ≤ v ∧ v ≤ 99) {su : Su} (hS : cSu I (s + 72) su) : CL xs 131 [vr s, vi 2, vi p, vi ((v : Nat) : Int)] (S, I, T, cc, zz) (RP S T cc zz (fun v9 I' => v9 = some (vi ((setN (suWait su v) : Nat) : Int)) ∧ cSu I' (s + 72) (suWait su v) ∧ I' s 13 = 0 ∧ mfs I I' s)) := by
  refine CL_start (r := 1) (ls := [vr s, vi 2, vi p, vi ((v : Nat) : Int)]) (rk_131 _) rfl ?_
  have hl4 := K.2.2.2.2.2.2.2.1.1
  have hne := K.2.2.1.2.2.1
  have h0 : cSu (up I s 13 0) (s + 72) su := hS.fr ((fr.rf I s s).up (Nat.le_refl _) (Nat.le_refl _)) (Or.inl (by omega))
  have hl8 := K.2.2.2.2.2.2.2.1.2.1
  refine w_iln l_131_0 rfl ?_
  refine w_zlt 9 l_131_1 (by decide) (fun hx => absurd hx (by decide)) (fun _ => ?_)
  refine w_iln l_131_4 rfl ?_
  refine w_ic l_131_5 (by decide) ?_
  refine w_cle 17 l_131_6 (by decide) (fun _ => ?_) (fun hx => absurd hx (by decide))
  refine w_iln l_131_17 rfl ?_
  refine w_zne 26 l_131_18 (by decide) (fun _ => ?_) (fun hx => absurd hx (by decide))
  refine w_iln l_131_26 rfl ?_
  refine w_ic l_131_27 (by decide) ?_
  refine w_cne 36 l_131_28 (by decide) (fun _ => ?_) (fun hx => absurd hx (by decide))
  refine w_iln l_131_36 rfl ?_
  refine w_iln l_131_37 rfl ?_
  refine q_st [vi 2, vi ((v : Nat) : Int)] [] l_131_38 (by decide) rfl rfl (Nat.le_of_ble_eq_true rfl) (by rw [mx_161]; exact Nat.le_of_ble_eq_true rfl) (by rw [rk_161]; decide) (s_161_2 (by omega)) ?_
  refine w_zne 52 l_131_41 (by decide) (fun _ => ?_) (fun hx => absurd hx (by decide))
  refine w_aln l_131_52 rfl ?_
  refine w_ic l_131_53 (by decide) ?_
  refine w_pi l_131_54 (oDropSwitch_sh o) ?_
  refine w_aln l_131_57 rfl ?_
  refine w_gr l_131_58 (oDropSwitch_sh o) (oDropSwitch_r10 o) ?_
  refine w_iln l_131_61 rfl ?_
  refine w_iln l_131_62 rfl ?_
  refine w_iln l_131_63 rfl ?_
  refine q_iv [vi 2, vi p, vi ((v : Nat) : Int)] [] l_131_64 rfl rfl (Nat.le_of_ble_eq_true rfl) (by rw [mx_93]; exact Nat.le_of_ble_eq_true rfl) (by rw [mt_93]; exact oSuppositions_sh (oDropSwitch_o10 o)) (by rw [mt_93]; decide) (by rw [rk_93]; decide) (s_93_2 (oDropSwitch_o10 o)) ?_
  refine w_aln l_131_67 rfl ?_
  refine w_gr l_131_68 (oDropSwitch_sh o) (oDropSwitch_r10 o) ?_
  refine q_iv [] [] l_131_71 rfl rfl (Nat.le_of_ble_eq_true rfl) (by rw [mx_94]; exact Nat.le_of_ble_eq_true rfl) (by rw [mt_94]; exact oSuppositions_sh (oDropSwitch_o10 o)) (by rw [mt_94]; decide) (by rw [rk_94]; decide) (s_94 (oDropSwitch_o10 o) (cSu_wait h0)) ?_
  refine w_ir l_131_74 (Or.inl rfl) ?_
  exact ⟨_, _, rfl, rfl, rfl, cSu_wait h0, by rw [up_no (by omega), up_eq], mfs.s13.w (Or.inl rfl)⟩

theorem s_131_3 (o : oDropSwitch S T s q y) {ne np : Nat} {a : Nat → Nat} (K : KQ I s q h l a ne np) {p : Int} {v : Nat} (hv : v ≤ 999) {su : Su} (hS : cSu I (s + 72) su) : CL xs 131 [vr s, vi 3, vi p, vi ((v : Nat) : Int)] (S, I, T, cc, zz) (RP S T cc zz (fun v9 I' => v9 = some (vi ((setN (suAge su v) : Nat) : Int)) ∧ cSu I' (s + 72) (suAge su v) ∧ I' s 13 = 0 ∧ mfs I I' s)) := by
  refine CL_start (r := 1) (ls := [vr s, vi 3, vi p, vi ((v : Nat) : Int)]) (rk_131 _) rfl ?_
  have hl4 := K.2.2.2.2.2.2.2.1.1
  have hne := K.2.2.1.2.2.1
  have h0 : cSu (up I s 13 0) (s + 72) su := hS.fr ((fr.rf I s s).up (Nat.le_refl _) (Nat.le_refl _)) (Or.inl (by omega))
  have hl8 := K.2.2.2.2.2.2.2.1.2.1
  refine w_iln l_131_0 rfl ?_
  refine w_zlt 9 l_131_1 (by decide) (fun hx => absurd hx (by decide)) (fun _ => ?_)
  refine w_iln l_131_4 rfl ?_
  refine w_ic l_131_5 (by decide) ?_
  refine w_cle 17 l_131_6 (by decide) (fun _ => ?_) (fun hx => absurd hx (by decide))
  refine w_iln l_131_17 rfl ?_
  refine w_zne 26 l_131_18 (by decide) (fun _ => ?_) (fun hx => absurd hx (by decide))
  refine w_iln l_131_26 rfl ?_
  refine w_ic l_131_27 (by decide) ?_
  refine w_cne 36 l_131_28 (by decide) (fun _ => ?_) (fun hx => absurd hx (by decide))
  refine w_iln l_131_36 rfl ?_
  refine w_iln l_131_37 rfl ?_
  refine q_st [vi 3, vi ((v : Nat) : Int)] [] l_131_38 (by decide) rfl rfl (Nat.le_of_ble_eq_true rfl) (by rw [mx_161]; exact Nat.le_of_ble_eq_true rfl) (by rw [rk_161]; decide) (s_161_3 (by omega)) ?_
  refine w_zne 52 l_131_41 (by decide) (fun _ => ?_) (fun hx => absurd hx (by decide))
  refine w_aln l_131_52 rfl ?_
  refine w_ic l_131_53 (by decide) ?_
  refine w_pi l_131_54 (oDropSwitch_sh o) ?_
  refine w_aln l_131_57 rfl ?_
  refine w_gr l_131_58 (oDropSwitch_sh o) (oDropSwitch_r10 o) ?_
  refine w_iln l_131_61 rfl ?_
  refine w_iln l_131_62 rfl ?_
  refine w_iln l_131_63 rfl ?_
  refine q_iv [vi 3, vi p, vi ((v : Nat) : Int)] [] l_131_64 rfl rfl (Nat.le_of_ble_eq_true rfl) (by rw [mx_93]; exact Nat.le_of_ble_eq_true rfl) (by rw [mt_93]; exact oSuppositions_sh (oDropSwitch_o10 o)) (by rw [mt_93]; decide) (by rw [rk_93]; decide) (s_93_3 (oDropSwitch_o10 o)) ?_
  refine w_aln l_131_67 rfl ?_
  refine w_gr l_131_68 (oDropSwitch_sh o) (oDropSwitch_r10 o) ?_
  refine q_iv [] [] l_131_71 rfl rfl (Nat.le_of_ble_eq_true rfl) (by rw [mx_94]; exact Nat.le_of_ble_eq_true rfl) (by rw [mt_94]; exact oSuppositions_sh (oDropSwitch_o10 o)) (by rw [mt_94]; decide) (by rw [rk_94]; decide) (s_94 (oDropSwitch_o10 o) (cSu_age h0)) ?_
  refine w_ir l_131_74 (Or.inl rfl) ?_
  exact ⟨_, _, rfl, rfl, rfl, cSu_age h0, by rw [up_no (by omega), up_eq], mfs.s13.w (Or.inl rfl)⟩

theorem s_131_4 (o : oDropSwitch S T s q y) {ne np : Nat} {a : Nat → Nat} (K : KQ I s q h l a ne np) {p : Nat} {v : Int} (hp : p < lRules l) {su : Su} (hS : cSu I (s + 72) su) : CL xs 131 [vr s, vi 4, vi ((p : Nat) : Int), vi v] (S, I, T, cc, zz) (RP S T cc zz (fun v9 I' => v9 = some (vi ((setN (suRule su p) : Nat) : Int)) ∧ cSu I' (s + 72) (suRule su p) ∧ I' s 13 = 0 ∧ mfs I I' s)) := by
  refine CL_start (r := 1) (ls := [vr s, vi 4, vi ((p : Nat) : Int), vi v]) (rk_131 _) rfl ?_
  have hl4 := K.2.2.2.2.2.2.2.1.1
  have hne := K.2.2.1.2.2.1
  have h0 : cSu (up I s 13 0) (s + 72) su := hS.fr ((fr.rf I s s).up (Nat.le_refl _) (Nat.le_refl _)) (Or.inl (by omega))
  have hl8 := K.2.2.2.2.2.2.2.1.2.1
  refine w_iln l_131_0 rfl ?_
  refine w_zlt 9 l_131_1 (by decide) (fun hx => absurd hx (by decide)) (fun _ => ?_)
  refine w_iln l_131_4 rfl ?_
  refine w_ic l_131_5 (by decide) ?_
  refine w_cle 17 l_131_6 (by decide) (fun _ => ?_) (fun hx => absurd hx (by decide))
  refine w_iln l_131_17 rfl ?_
  refine w_zne 26 l_131_18 (by decide) (fun _ => ?_) (fun hx => absurd hx (by decide))
  refine w_iln l_131_26 rfl ?_
  refine w_ic l_131_27 (by decide) ?_
  refine w_cne 36 l_131_28 (by decide) (fun hx => absurd hx (by decide)) (fun _ => ?_)
  refine w_aln l_131_31 rfl ?_
  refine w_iln l_131_32 rfl ?_
  refine q_iv [vi ((p : Nat) : Int)] [] l_131_33 rfl rfl (Nat.le_of_ble_eq_true rfl) (by rw [mx_148]; exact Nat.le_of_ble_eq_true rfl) (by rw [mt_148]; exact oDropSwitch_sh o) (by rw [mt_148]; decide) (by rw [rk_148]; decide) (s_148 o K hp) ?_
  refine w_iln l_131_36 rfl ?_
  refine w_iln l_131_37 rfl ?_
  refine q_st [vi 4, vi v] [] l_131_38 (by decide) rfl rfl (Nat.le_of_ble_eq_true rfl) (by rw [mx_161]; exact Nat.le_of_ble_eq_true rfl) (by rw [rk_161]; decide) (s_161_4) ?_
  refine w_zne 52 l_131_41 (by decide) (fun _ => ?_) (fun hx => absurd hx (by decide))
  refine w_aln l_131_52 rfl ?_
  refine w_ic l_131_53 (by decide) ?_
  refine w_pi l_131_54 (oDropSwitch_sh o) ?_
  refine w_aln l_131_57 rfl ?_
  refine w_gr l_131_58 (oDropSwitch_sh o) (oDropSwitch_r10 o) ?_
  refine w_iln l_131_61 rfl ?_
  refine w_iln l_131_62 rfl ?_
  refine w_iln l_131_63 rfl ?_
  refine q_iv [vi 4, vi ((p : Nat) : Int), vi v] [] l_131_64 rfl rfl (Nat.le_of_ble_eq_true rfl) (by rw [mx_93]; exact Nat.le_of_ble_eq_true rfl) (by rw [mt_93]; exact oSuppositions_sh (oDropSwitch_o10 o)) (by rw [mt_93]; decide) (by rw [rk_93]; decide) (s_93_4 (oDropSwitch_o10 o) (by omega)) ?_
  refine w_aln l_131_67 rfl ?_
  refine w_gr l_131_68 (oDropSwitch_sh o) (oDropSwitch_r10 o) ?_
  refine q_iv [] [] l_131_71 rfl rfl (Nat.le_of_ble_eq_true rfl) (by rw [mx_94]; exact Nat.le_of_ble_eq_true rfl) (by rw [mt_94]; exact oSuppositions_sh (oDropSwitch_o10 o)) (by rw [mt_94]; decide) (by rw [rk_94]; decide) (s_94 (oDropSwitch_o10 o) (cSu_rule h0)) ?_
  refine w_ir l_131_74 (Or.inl rfl) ?_
  exact ⟨_, _, rfl, rfl, rfl, cSu_rule h0, by rw [up_no (by omega), up_eq], mfs.s13.w (Or.inl rfl)⟩

end CSQ
