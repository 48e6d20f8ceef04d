theorem t_47 : Cond.laysFinal "ContentLibrary$Blocks" "ContentLibrary$Blocks" "count" "I" ∈ x_big := x_bt 47 (by decide +kernel) (by decide +kernel)
theorem t_49 : Cond.lays "ContentLibrary$Blocks" "ContentLibrary$Blocks" "fuse" "I" ∈ x_big := x_bt 49 (by decide +kernel) (by decide +kernel)
theorem t_51 : Cond.lays "ContentLibrary$Blocks" "ContentLibrary$Blocks" "cut" "Z" ∈ x_big := x_bt 51 (by decide +kernel) (by decide +kernel)
theorem t_53 : Cond.laysFinal "ContentLibrary$Blocks" "ContentLibrary$Blocks" "bytes" "[I" ∈ x_big := x_bt 53 (by decide +kernel) (by decide +kernel)
theorem t_55 : Cond.laysFinal "ContentLibrary$Blocks" "ContentLibrary$Blocks" "image" "[I" ∈ x_big := x_bt 55 (by decide +kernel) (by decide +kernel)
theorem t_72 : Cond.lays "ContentLibrary$Picture" "ContentLibrary$Picture" "there" "Z" ∈ x_big := x_bt 72 (by decide +kernel) (by decide +kernel)
theorem t_74 : Cond.laysFinal "ContentLibrary$Picture" "ContentLibrary$Picture" "message" "[I" ∈ x_big := x_bt 74 (by decide +kernel) (by decide +kernel)
theorem t_76 : Cond.lays "ContentLibrary$Picture" "ContentLibrary$Picture" "had" "I" ∈ x_big := x_bt 76 (by decide +kernel) (by decide +kernel)
theorem t_101 : Cond.lays "ContentLibrary$Kept" "ContentLibrary$Kept" "there" "Z" ∈ x_big := x_bt 101 (by decide +kernel) (by decide +kernel)
theorem t_103 : Cond.laysFinal "ContentLibrary$Kept" "ContentLibrary$Kept" "picture" "LContentLibrary$Picture;" ∈ x_big := x_bt 103 (by decide +kernel) (by decide +kernel)
theorem t_105 : Cond.laysFinal "ContentLibrary$Kept" "ContentLibrary$Kept" "digest" "[I" ∈ x_big := x_bt 105 (by decide +kernel) (by decide +kernel)
theorem t_107 : Cond.lays "ContentLibrary$Kept" "ContentLibrary$Kept" "print" "J" ∈ x_big := x_bt 107 (by decide +kernel) (by decide +kernel)
theorem t_109 : Cond.lays "ContentLibrary$Kept" "ContentLibrary$Kept" "recordBlocks" "I" ∈ x_big := x_bt 109 (by decide +kernel) (by decide +kernel)
theorem t_111 : Cond.laysFinal "ContentLibrary$Kept" "ContentLibrary$Kept" "places" "[I" ∈ x_big := x_bt 111 (by decide +kernel) (by decide +kernel)
theorem t_123 : Cond.laysFinal "ContentLibrary$Digester" "ContentLibrary$Digester" "padded" "[I" ∈ x_big := x_bt 123 (by decide +kernel) (by decide +kernel)
theorem t_125 : Cond.laysFinal "ContentLibrary$Digester" "ContentLibrary$Digester" "schedule" "[I" ∈ x_big := x_bt 125 (by decide +kernel) (by decide +kernel)
theorem t_127 : Cond.laysFinal "ContentLibrary$Digester" "ContentLibrary$Digester" "state" "[I" ∈ x_big := x_bt 127 (by decide +kernel) (by decide +kernel)
theorem t_139 : Cond.laysFinal "ContentLibrary" "ContentLibrary" "blocks" "LContentLibrary$Blocks;" ∈ x_big := x_bt 139 (by decide +kernel) (by decide +kernel)
theorem t_141 : Cond.laysFinal "ContentLibrary" "ContentLibrary" "used" "[Z" ∈ x_big := x_bt 141 (by decide +kernel) (by decide +kernel)
theorem t_143 : Cond.laysFinal "ContentLibrary" "ContentLibrary" "made" "[LContentLibrary$Picture;" ∈ x_big := x_bt 143 (by decide +kernel) (by decide +kernel)
theorem t_145 : Cond.laysFinal "ContentLibrary" "ContentLibrary" "kept" "[LContentLibrary$Kept;" ∈ x_big := x_bt 145 (by decide +kernel) (by decide +kernel)
theorem t_147 : Cond.laysFinal "ContentLibrary" "ContentLibrary" "digester" "LContentLibrary$Digester;" ∈ x_big := x_bt 147 (by decide +kernel) (by decide +kernel)
theorem t_149 : Cond.laysFinal "ContentLibrary" "ContentLibrary" "freshDigest" "[I" ∈ x_big := x_bt 149 (by decide +kernel) (by decide +kernel)
theorem t_151 : Cond.laysFinal "ContentLibrary" "ContentLibrary" "foundNumbers" "[I" ∈ x_big := x_bt 151 (by decide +kernel) (by decide +kernel)
theorem t_153 : Cond.laysFinal "ContentLibrary" "ContentLibrary" "foundBits" "[I" ∈ x_big := x_bt 153 (by decide +kernel) (by decide +kernel)
theorem t_155 : Cond.lays "ContentLibrary" "ContentLibrary" "foundCount" "I" ∈ x_big := x_bt 155 (by decide +kernel) (by decide +kernel)
theorem t_703 : Cond.lays "ContentLibraryModel" "ContentLibraryModel" "code" "I" ∈ x_big := x_bt 703 (by decide +kernel) (by decide +kernel)
theorem t_705 : Cond.laysFinal "ContentLibraryModel" "ContentLibraryModel" "blocks" "I" ∈ x_big := x_bt 705 (by decide +kernel) (by decide +kernel)
theorem t_707 : Cond.laysFinal "ContentLibraryModel" "ContentLibraryModel" "bytes" "[I" ∈ x_big := x_bt 707 (by decide +kernel) (by decide +kernel)
theorem t_709 : Cond.lays "ContentLibraryModel" "ContentLibraryModel" "cut" "Z" ∈ x_big := x_bt 709 (by decide +kernel) (by decide +kernel)
theorem t_711 : Cond.lays "ContentLibraryModel" "ContentLibraryModel" "left" "I" ∈ x_big := x_bt 711 (by decide +kernel) (by decide +kernel)
theorem t_713 : Cond.laysFinal "ContentLibraryModel" "ContentLibraryModel" "made" "[Z" ∈ x_big := x_bt 713 (by decide +kernel) (by decide +kernel)
theorem t_715 : Cond.laysFinal "ContentLibraryModel" "ContentLibraryModel" "widths" "[I" ∈ x_big := x_bt 715 (by decide +kernel) (by decide +kernel)
theorem t_717 : Cond.laysFinal "ContentLibraryModel" "ContentLibraryModel" "heights" "[I" ∈ x_big := x_bt 717 (by decide +kernel) (by decide +kernel)
theorem t_719 : Cond.laysFinal "ContentLibraryModel" "ContentLibraryModel" "many" "[I" ∈ x_big := x_bt 719 (by decide +kernel) (by decide +kernel)
theorem t_721 : Cond.laysFinal "ContentLibraryModel" "ContentLibraryModel" "samples" "[I" ∈ x_big := x_bt 721 (by decide +kernel) (by decide +kernel)
theorem t_723 : Cond.laysFinal "ContentLibraryModel" "ContentLibraryModel" "there" "[Z" ∈ x_big := x_bt 723 (by decide +kernel) (by decide +kernel)
theorem t_725 : Cond.laysFinal "ContentLibraryModel" "ContentLibraryModel" "wide" "[I" ∈ x_big := x_bt 725 (by decide +kernel) (by decide +kernel)
theorem t_727 : Cond.laysFinal "ContentLibraryModel" "ContentLibraryModel" "high" "[I" ∈ x_big := x_bt 727 (by decide +kernel) (by decide +kernel)
theorem t_729 : Cond.laysFinal "ContentLibraryModel" "ContentLibraryModel" "kept" "[I" ∈ x_big := x_bt 729 (by decide +kernel) (by decide +kernel)
theorem t_731 : Cond.laysFinal "ContentLibraryModel" "ContentLibraryModel" "markAt" "[I" ∈ x_big := x_bt 731 (by decide +kernel) (by decide +kernel)
theorem t_733 : Cond.laysFinal "ContentLibraryModel" "ContentLibraryModel" "records" "[I" ∈ x_big := x_bt 733 (by decide +kernel) (by decide +kernel)
theorem t_735 : Cond.laysFinal "ContentLibraryModel" "ContentLibraryModel" "recordAt" "[I" ∈ x_big := x_bt 735 (by decide +kernel) (by decide +kernel)
theorem t_737 : Cond.laysFinal "ContentLibraryModel" "ContentLibraryModel" "prints" "[J" ∈ x_big := x_bt 737 (by decide +kernel) (by decide +kernel)
theorem t_739 : Cond.laysFinal "ContentLibraryModel" "ContentLibraryModel" "owner" "[I" ∈ x_big := x_bt 739 (by decide +kernel) (by decide +kernel)
theorem t_741 : Cond.lays "ContentLibraryModel" "ContentLibraryModel" "foundMany" "I" ∈ x_big := x_bt 741 (by decide +kernel) (by decide +kernel)
theorem t_743 : Cond.laysFinal "ContentLibraryModel" "ContentLibraryModel" "foundNumber" "[I" ∈ x_big := x_bt 743 (by decide +kernel) (by decide +kernel)
theorem t_745 : Cond.laysFinal "ContentLibraryModel" "ContentLibraryModel" "foundBits" "[I" ∈ x_big := x_bt 745 (by decide +kernel) (by decide +kernel)
theorem t_747 : Cond.laysFinal "ContentLibraryModel" "ContentLibraryModel" "rounds" "[I" ∈ x_big := x_bt 747 (by decide +kernel) (by decide +kernel)
theorem t_749 : Cond.laysFinal "ContentLibraryModel" "ContentLibraryModel" "roots" "[I" ∈ x_big := x_bt 749 (by decide +kernel) (by decide +kernel)
theorem t_751 : Cond.laysFinal "ContentLibraryModel" "ContentLibraryModel" "words" "[I" ∈ x_big := x_bt 751 (by decide +kernel) (by decide +kernel)
theorem t_753 : Cond.laysFinal "ContentLibraryModel" "ContentLibraryModel" "state" "[I" ∈ x_big := x_bt 753 (by decide +kernel) (by decide +kernel)
theorem t_755 : Cond.laysFinal "ContentLibraryModel" "ContentLibraryModel" "message" "[I" ∈ x_big := x_bt 755 (by decide +kernel) (by decide +kernel)
theorem t_757 : Cond.lays "ContentLibraryModel" "ContentLibraryModel" "length" "I" ∈ x_big := x_bt 757 (by decide +kernel) (by decide +kernel)
theorem t_759 : Cond.laysFinal "ContentLibraryModel" "ContentLibraryModel" "first" "[I" ∈ x_big := x_bt 759 (by decide +kernel) (by decide +kernel)
theorem t_761 : Cond.laysFinal "ContentLibraryModel" "ContentLibraryModel" "chosen" "[I" ∈ x_big := x_bt 761 (by decide +kernel) (by decide +kernel)
theorem t_763 : Cond.laysFinal "ContentLibraryModel" "ContentLibraryModel" "chosenDigest" "[I" ∈ x_big := x_bt 763 (by decide +kernel) (by decide +kernel)
def x_TX : u_T := fun k => match k with
  | 0 => ("ContentLibrary", "blocks", "LContentLibrary$Blocks;", true)
  | 1 => ("ContentLibrary", "used", "[Z", true)
  | 2 => ("ContentLibrary", "made", "[LContentLibrary$Picture;", true)
  | 3 => ("ContentLibrary", "kept", "[LContentLibrary$Kept;", true)
  | 4 => ("ContentLibrary", "digester", "LContentLibrary$Digester;", true)
  | 5 => ("ContentLibrary", "freshDigest", "[I", true)
  | 6 => ("ContentLibrary", "foundNumbers", "[I", true)
  | 7 => ("ContentLibrary", "foundBits", "[I", true)
  | _ => ("ContentLibrary", "foundCount", "I", false)
def x_tyX : Nat → FieldType := fun k => match k with
  | 0 => .object "ContentLibrary$Blocks"
  | 1 => .array .boolean
  | 2 => .array (.object "ContentLibrary$Picture")
  | 3 => .array (.object "ContentLibrary$Kept")
  | 4 => .object "ContentLibrary$Digester"
  | 5 => .array .int
  | 6 => .array .int
  | 7 => .array .int
  | _ => .int
theorem x_nmX : ∀ a, a < 9 → ∀ b, b < 9 → a ≠ b → (x_TX a).2.1 ≠ (x_TX b).2.1 := by decide +kernel
theorem x_tyX_ok : ∀ k, k < 9 → parseFieldDescriptor (x_TX k).2.2.1 = some (x_tyX k) := by decide +kernel
theorem x_inX : ∀ w ∈ u_ws "ContentLibrary" x_TX 9, w ∈ x_big := List.forall_mem_map.mpr (fun k hk => by
  have hk := List.mem_range.mp hk
  match k, hk with
  | 0, _ => exact t_139
  | 1, _ => exact t_141
  | 2, _ => exact t_143
  | 3, _ => exact t_145
  | 4, _ => exact t_147
  | 5, _ => exact t_149
  | 6, _ => exact t_151
  | 7, _ => exact t_153
  | 8, _ => exact t_155
  | k + 9, hk => exact absurd hk (by omega))
def x_TB : u_T := fun k => match k with
  | 0 => ("ContentLibrary$Blocks", "count", "I", true)
  | 1 => ("ContentLibrary$Blocks", "fuse", "I", false)
  | 2 => ("ContentLibrary$Blocks", "cut", "Z", false)
  | 3 => ("ContentLibrary$Blocks", "bytes", "[I", true)
  | _ => ("ContentLibrary$Blocks", "image", "[I", true)
def x_tyB : Nat → FieldType := fun k => match k with
  | 0 => .int
  | 1 => .int
  | 2 => .boolean
  | 3 => .array .int
  | _ => .array .int
theorem x_nmB : ∀ a, a < 5 → ∀ b, b < 5 → a ≠ b → (x_TB a).2.1 ≠ (x_TB b).2.1 := by decide +kernel
theorem x_tyB_ok : ∀ k, k < 5 → parseFieldDescriptor (x_TB k).2.2.1 = some (x_tyB k) := by decide +kernel
theorem x_inB : ∀ w ∈ u_ws "ContentLibrary$Blocks" x_TB 5, w ∈ x_big := List.forall_mem_map.mpr (fun k hk => by
  have hk := List.mem_range.mp hk
  match k, hk with
  | 0, _ => exact t_47
  | 1, _ => exact t_49
  | 2, _ => exact t_51
  | 3, _ => exact t_53
  | 4, _ => exact t_55
  | k + 5, hk => exact absurd hk (by omega))
def x_TP : u_T := fun k => match k with
  | 0 => ("ContentLibrary$Picture", "there", "Z", false)
  | 1 => ("ContentLibrary$Picture", "message", "[I", true)
  | _ => ("ContentLibrary$Picture", "had", "I", false)
def x_tyP : Nat → FieldType := fun k => match k with
  | 0 => .boolean
  | 1 => .array .int
  | _ => .int
theorem x_nmP : ∀ a, a < 3 → ∀ b, b < 3 → a ≠ b → (x_TP a).2.1 ≠ (x_TP b).2.1 := by decide +kernel
theorem x_tyP_ok : ∀ k, k < 3 → parseFieldDescriptor (x_TP k).2.2.1 = some (x_tyP k) := by decide +kernel
theorem x_inP : ∀ w ∈ u_ws "ContentLibrary$Picture" x_TP 3, w ∈ x_big := List.forall_mem_map.mpr (fun k hk => by
  have hk := List.mem_range.mp hk
  match k, hk with
  | 0, _ => exact t_72
  | 1, _ => exact t_74
  | 2, _ => exact t_76
  | k + 3, hk => exact absurd hk (by omega))
def x_TK : u_T := fun k => match k with
  | 0 => ("ContentLibrary$Kept", "there", "Z", false)
  | 1 => ("ContentLibrary$Kept", "picture", "LContentLibrary$Picture;", true)
  | 2 => ("ContentLibrary$Kept", "digest", "[I", true)
  | 3 => ("ContentLibrary$Kept", "print", "J", false)
  | 4 => ("ContentLibrary$Kept", "recordBlocks", "I", false)
  | _ => ("ContentLibrary$Kept", "places", "[I", true)
def x_tyK : Nat → FieldType := fun k => match k with
  | 0 => .boolean
  | 1 => .object "ContentLibrary$Picture"
  | 2 => .array .int
  | 3 => .long
  | 4 => .int
  | _ => .array .int
theorem x_nmK : ∀ a, a < 6 → ∀ b, b < 6 → a ≠ b → (x_TK a).2.1 ≠ (x_TK b).2.1 := by decide +kernel
theorem x_tyK_ok : ∀ k, k < 6 → parseFieldDescriptor (x_TK k).2.2.1 = some (x_tyK k) := by decide +kernel
theorem x_inK : ∀ w ∈ u_ws "ContentLibrary$Kept" x_TK 6, w ∈ x_big := List.forall_mem_map.mpr (fun k hk => by
  have hk := List.mem_range.mp hk
  match k, hk with
  | 0, _ => exact t_101
  | 1, _ => exact t_103
  | 2, _ => exact t_105
  | 3, _ => exact t_107
  | 4, _ => exact t_109
  | 5, _ => exact t_111
  | k + 6, hk => exact absurd hk (by omega))
def x_TD : u_T := fun k => match k with
  | 0 => ("ContentLibrary$Digester", "padded", "[I", true)
  | 1 => ("ContentLibrary$Digester", "schedule", "[I", true)
  | _ => ("ContentLibrary$Digester", "state", "[I", true)
def x_tyD : Nat → FieldType := fun k => match k with
  | 0 => .array .int
  | 1 => .array .int
  | _ => .array .int
theorem x_nmD : ∀ a, a < 3 → ∀ b, b < 3 → a ≠ b → (x_TD a).2.1 ≠ (x_TD b).2.1 := by decide +kernel
theorem x_tyD_ok : ∀ k, k < 3 → parseFieldDescriptor (x_TD k).2.2.1 = some (x_tyD k) := by decide +kernel
theorem x_inD : ∀ w ∈ u_ws "ContentLibrary$Digester" x_TD 3, w ∈ x_big := List.forall_mem_map.mpr (fun k hk => by
  have hk := List.mem_range.mp hk
  match k, hk with
  | 0, _ => exact t_123
  | 1, _ => exact t_125
  | 2, _ => exact t_127
  | k + 3, hk => exact absurd hk (by omega))
def x_TM : u_T := fun k => match k with
  | 0 => ("ContentLibraryModel", "code", "I", false)
  | 1 => ("ContentLibraryModel", "blocks", "I", true)
  | 2 => ("ContentLibraryModel", "bytes", "[I", true)
  | 3 => ("ContentLibraryModel", "cut", "Z", false)
  | 4 => ("ContentLibraryModel", "left", "I", false)
  | 5 => ("ContentLibraryModel", "made", "[Z", true)
  | 6 => ("ContentLibraryModel", "widths", "[I", true)
  | 7 => ("ContentLibraryModel", "heights", "[I", true)
  | 8 => ("ContentLibraryModel", "many", "[I", true)
  | 9 => ("ContentLibraryModel", "samples", "[I", true)
  | 10 => ("ContentLibraryModel", "there", "[Z", true)
  | 11 => ("ContentLibraryModel", "wide", "[I", true)
  | 12 => ("ContentLibraryModel", "high", "[I", true)
  | 13 => ("ContentLibraryModel", "kept", "[I", true)
  | 14 => ("ContentLibraryModel", "markAt", "[I", true)
  | 15 => ("ContentLibraryModel", "records", "[I", true)
  | 16 => ("ContentLibraryModel", "recordAt", "[I", true)
  | 17 => ("ContentLibraryModel", "prints", "[J", true)
  | 18 => ("ContentLibraryModel", "owner", "[I", true)
  | 19 => ("ContentLibraryModel", "foundMany", "I", false)
  | 20 => ("ContentLibraryModel", "foundNumber", "[I", true)
  | 21 => ("ContentLibraryModel", "foundBits", "[I", true)
  | 22 => ("ContentLibraryModel", "rounds", "[I", true)
  | 23 => ("ContentLibraryModel", "roots", "[I", true)
  | 24 => ("ContentLibraryModel", "words", "[I", true)
  | 25 => ("ContentLibraryModel", "state", "[I", true)
  | 26 => ("ContentLibraryModel", "message", "[I", true)
  | 27 => ("ContentLibraryModel", "length", "I", false)
  | 28 => ("ContentLibraryModel", "first", "[I", true)
  | 29 => ("ContentLibraryModel", "chosen", "[I", true)
  | _ => ("ContentLibraryModel", "chosenDigest", "[I", true)
def x_tyM : Nat → FieldType := fun k => match k with
  | 0 => .int
  | 1 => .int
  | 2 => .array .int
  | 3 => .boolean
  | 4 => .int
  | 5 => .array .boolean
  | 6 => .array .int
  | 7 => .array .int
  | 8 => .array .int
  | 9 => .array .int
  | 10 => .array .boolean
  | 11 => .array .int
  | 12 => .array .int
  | 13 => .array .int
  | 14 => .array .int
  | 15 => .array .int
  | 16 => .array .int
  | 17 => .array .long
  | 18 => .array .int
  | 19 => .int
  | 20 => .array .int
  | 21 => .array .int
  | 22 => .array .int
  | 23 => .array .int
  | 24 => .array .int
  | 25 => .array .int
  | 26 => .array .int
  | 27 => .int
  | 28 => .array .int
  | 29 => .array .int
  | _ => .array .int
theorem x_nmM : ∀ a, a < 31 → ∀ b, b < 31 → a ≠ b → (x_TM a).2.1 ≠ (x_TM b).2.1 := by decide +kernel
theorem x_tyM_ok : ∀ k, k < 31 → parseFieldDescriptor (x_TM k).2.2.1 = some (x_tyM k) := by decide +kernel
theorem x_inM : ∀ w ∈ u_ws "ContentLibraryModel" x_TM 31, w ∈ x_big := List.forall_mem_map.mpr (fun k hk => by
  have hk := List.mem_range.mp hk
  match k, hk with
  | 0, _ => exact t_703
  | 1, _ => exact t_705
  | 2, _ => exact t_707
  | 3, _ => exact t_709
  | 4, _ => exact t_711
  | 5, _ => exact t_713
  | 6, _ => exact t_715
  | 7, _ => exact t_717
  | 8, _ => exact t_719
  | 9, _ => exact t_721
  | 10, _ => exact t_723
  | 11, _ => exact t_725
  | 12, _ => exact t_727
  | 13, _ => exact t_729
  | 14, _ => exact t_731
  | 15, _ => exact t_733
  | 16, _ => exact t_735
  | 17, _ => exact t_737
  | 18, _ => exact t_739
  | 19, _ => exact t_741
  | 20, _ => exact t_743
  | 21, _ => exact t_745
  | 22, _ => exact t_747
  | 23, _ => exact t_749
  | 24, _ => exact t_751
  | 25, _ => exact t_753
  | 26, _ => exact t_755
  | 27, _ => exact t_757
  | 28, _ => exact t_759
  | 29, _ => exact t_761
  | 30, _ => exact t_763
  | k + 31, hk => exact absurd hk (by omega))
abbrev vwCl : List vw_C := [("ContentLibrary", x_TX, 9), ("ContentLibrary$Blocks", x_TB, 5), ("ContentLibrary$Picture", x_TP, 3), ("ContentLibrary$Kept", x_TK, 6), ("ContentLibrary$Digester", x_TD, 3), ("ContentLibraryModel", x_TM, 31)]
