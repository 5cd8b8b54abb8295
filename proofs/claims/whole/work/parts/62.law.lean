def fL : tf_F := [(13, 103, 4294967295)]
set_option maxRecDepth 100000 in
theorem okfL : tf_okF RL fL := by unfold tf_okF; decide +kernel

set_option maxRecDepth 100000 in
theorem lL_15 : tf_okV RL 15 2 7 mX10_feed := by unfold tf_okV tf_okL; decide +kernel

set_option maxRecDepth 100000 in
theorem lL_19 : tf_okV RL 19 2 8 mX11_feed := by unfold tf_okV tf_okL; decide +kernel

set_option maxRecDepth 100000 in
theorem lL_20 : tf_okV RL 20 1 7 mX10_board := by unfold tf_okV tf_okL; decide +kernel

set_option maxRecDepth 100000 in
theorem lL_24 : tf_okV RL 24 1 8 mX11_board := by unfold tf_okV tf_okL; decide +kernel

set_option maxRecDepth 100000 in
theorem lL_25 : tf_okV RL 25 1 7 mX10_text := by unfold tf_okV tf_okL; decide +kernel

set_option maxRecDepth 100000 in
theorem lL_29 : tf_okV RL 29 1 8 mX11_text := by unfold tf_okV tf_okL; decide +kernel

set_option maxRecDepth 100000 in
theorem lL_30 : tf_okV RL 30 0 7 mX10_word := by unfold tf_okV tf_okL; decide +kernel

set_option maxRecDepth 100000 in
theorem lL_34 : tf_okV RL 34 0 8 mX11_word := by unfold tf_okV tf_okL; decide +kernel

set_option maxRecDepth 100000 in
theorem lL_35 : tf_okV RL 35 2 7 mX10_keyOf := by unfold tf_okV tf_okL; decide +kernel

set_option maxRecDepth 100000 in
theorem lL_39 : tf_okV RL 39 2 8 mX11_keyOf := by unfold tf_okV tf_okL; decide +kernel

set_option maxRecDepth 100000 in
theorem lL_40 : tf_okV RL 40 2 7 mX10_letterOn := by unfold tf_okV tf_okL; decide +kernel

set_option maxRecDepth 100000 in
theorem lL_43 : tf_okV RL 43 2 8 mX11_letterOn := by unfold tf_okV tf_okL; decide +kernel

set_option maxRecDepth 100000 in
theorem lL_44 : tf_okV RL 44 2 7 mX10_fingerOf := by unfold tf_okV tf_okL; decide +kernel

set_option maxRecDepth 100000 in
theorem lL_48 : tf_okV RL 48 2 8 mX11_fingerOf := by unfold tf_okV tf_okL; decide +kernel

set_option maxRecDepth 100000 in
theorem lL_49 : tf_okV RL 49 3 7 mX10_law := by unfold tf_okV tf_okL; decide +kernel

set_option maxRecDepth 100000 in
theorem lL_53 : tf_okV RL 53 3 8 mX11_law := by unfold tf_okV tf_okL; decide +kernel

set_option maxRecDepth 100000 in
theorem lL_54 : tf_okV RL 54 4 7 mX10_gap := by unfold tf_okV tf_okL; decide +kernel

set_option maxRecDepth 100000 in
theorem lL_58 : tf_okV RL 58 4 8 mX11_gap := by unfold tf_okV tf_okL; decide +kernel

set_option maxRecDepth 100000 in
theorem lL_59 : tf_okV RL 59 2 7 mX10_sign := by unfold tf_okV tf_okL; decide +kernel

set_option maxRecDepth 100000 in
theorem lL_63 : tf_okV RL 63 2 8 mX11_sign := by unfold tf_okV tf_okL; decide +kernel

set_option maxRecDepth 100000 in
theorem lL_64 : tf_okV RL 64 2 7 mX10_practise := by unfold tf_okV tf_okL; decide +kernel

set_option maxRecDepth 100000 in
theorem lL_67 : tf_okV RL 67 2 8 mX11_practise := by unfold tf_okV tf_okL; decide +kernel

set_option maxRecDepth 100000 in
theorem lL_68 : tf_okV RL 68 2 7 mX10_piece := by unfold tf_okV tf_okL; decide +kernel

set_option maxRecDepth 100000 in
theorem lL_71 : tf_okV RL 71 2 8 mX11_piece := by unfold tf_okV tf_okL; decide +kernel

set_option maxRecDepth 100000 in
theorem lL_72 : tf_okV RL 72 0 7 mX10_pieces := by unfold tf_okV tf_okL; decide +kernel

set_option maxRecDepth 100000 in
theorem lL_75 : tf_okV RL 75 0 8 mX11_pieces := by unfold tf_okV tf_okL; decide +kernel

set_option maxRecDepth 100000 in
theorem lL_76 : tf_okV RL 76 3 7 mX10_time := by unfold tf_okV tf_okL; decide +kernel

set_option maxRecDepth 100000 in
theorem lL_80 : tf_okV RL 80 3 8 mX11_time := by unfold tf_okV tf_okL; decide +kernel

set_option maxRecDepth 100000 in
theorem lL_81 : tf_okV RL 81 1 7 mX10_may := by unfold tf_okV tf_okL; decide +kernel

set_option maxRecDepth 100000 in
theorem lL_84 : tf_okV RL 84 1 8 mX11_may := by unfold tf_okV tf_okL; decide +kernel

set_option maxRecDepth 100000 in
theorem lL_85 : tf_okV RL 85 2 7 mX10_where := by unfold tf_okV tf_okL; decide +kernel

set_option maxRecDepth 100000 in
theorem lL_88 : tf_okV RL 88 2 8 mX11_where := by unfold tf_okV tf_okL; decide +kernel

set_option maxRecDepth 100000 in
theorem lL_89 : tf_okV RL 89 3 7 mX10_exchange := by unfold tf_okV tf_okL; decide +kernel

set_option maxRecDepth 100000 in
theorem lL_92 : tf_okV RL 92 3 8 mX11_exchange := by unfold tf_okV tf_okL; decide +kernel

set_option maxRecDepth 100000 in
theorem lL_93 : tf_okV RL 93 2 7 mX10_better := by unfold tf_okV tf_okL; decide +kernel

set_option maxRecDepth 100000 in
theorem lL_96 : tf_okV RL 96 2 8 mX11_better := by unfold tf_okV tf_okL; decide +kernel

set_option maxRecDepth 100000 in
theorem lL_97 : tf_okV RL 97 3 7 mX10_climb := by unfold tf_okV tf_okL; decide +kernel

set_option maxRecDepth 100000 in
theorem lL_100 : tf_okV RL 100 3 8 mX11_climb := by unfold tf_okV tf_okL; decide +kernel

set_option maxRecDepth 100000 in
theorem lL_101 : tf_okV RL 101 3 7 mX10_summer := by unfold tf_okV tf_okL; decide +kernel

set_option maxRecDepth 100000 in
theorem lL_104 : tf_okV RL 104 3 8 mX11_summer := by unfold tf_okV tf_okL; decide +kernel

set_option maxRecDepth 100000 in
theorem lL_105 : tf_okV RL 105 1 7 mX10_put := by unfold tf_okV tf_okL; decide +kernel

set_option maxRecDepth 100000 in
theorem lL_108 : tf_okV RL 108 1 8 mX11_put := by unfold tf_okV tf_okL; decide +kernel

set_option maxRecDepth 100000 in
theorem lL_109 : tf_okV RL 109 0 7 mX10_unput := by unfold tf_okV tf_okL; decide +kernel

set_option maxRecDepth 100000 in
theorem lL_112 : tf_okV RL 112 0 8 mX11_unput := by unfold tf_okV tf_okL; decide +kernel

set_option maxRecDepth 100000 in
theorem lL_113 : tf_okV RL 113 2 7 mX10_far := by unfold tf_okV tf_okL; decide +kernel

set_option maxRecDepth 100000 in
theorem lL_116 : tf_okV RL 116 2 8 mX11_far := by unfold tf_okV tf_okL; decide +kernel

set_option maxRecDepth 100000 in
theorem lL_117 : tf_okV RL 117 1 7 mX10_nearest := by unfold tf_okV tf_okL; decide +kernel

set_option maxRecDepth 100000 in
theorem lL_120 : tf_okV RL 120 1 8 mX11_nearest := by unfold tf_okV tf_okL; decide +kernel

set_option maxRecDepth 100000 in
theorem lL_121 : tf_okV RL 121 3 7 mX10_span := by unfold tf_okV tf_okL; decide +kernel

set_option maxRecDepth 100000 in
theorem lL_124 : tf_okV RL 124 3 8 mX11_span := by unfold tf_okV tf_okL; decide +kernel

set_option maxRecDepth 100000 in
theorem lL_125 : tf_okV RL 125 2 7 mX10_ache := by unfold tf_okV tf_okL; decide +kernel

set_option maxRecDepth 100000 in
theorem lL_128 : tf_okV RL 128 2 8 mX11_ache := by unfold tf_okV tf_okL; decide +kernel

set_option maxRecDepth 100000 in
theorem lL_129 : tf_okV RL 129 3 7 mX10_pauses := by unfold tf_okV tf_okL; decide +kernel

set_option maxRecDepth 100000 in
theorem lL_132 : tf_okV RL 132 3 8 mX11_pauses := by unfold tf_okV tf_okL; decide +kernel

set_option maxRecDepth 100000 in
theorem lL_133 : tf_okV RL 133 4 7 mX10_pace := by unfold tf_okV tf_okL; decide +kernel

set_option maxRecDepth 100000 in
theorem lL_136 : tf_okV RL 136 4 8 mX11_pace := by unfold tf_okV tf_okL; decide +kernel

set_option maxRecDepth 100000 in
theorem lL_137 : tf_okV RL 137 3 7 mX10_soonest := by unfold tf_okV tf_okL; decide +kernel

set_option maxRecDepth 100000 in
theorem lL_140 : tf_okV RL 140 3 8 mX11_soonest := by unfold tf_okV tf_okL; decide +kernel

set_option maxRecDepth 100000 in
theorem lL_141 : tf_okV RL 141 0 7 mX10_image := by unfold tf_okV tf_okL; decide +kernel

set_option maxRecDepth 100000 in
theorem lL_144 : tf_okV RL 144 0 8 mX11_image := by unfold tf_okV tf_okL; decide +kernel

set_option maxRecDepth 100000 in
theorem lL_145 : tf_okV RL 145 0 7 mX10_on := by unfold tf_okV tf_okL; decide +kernel

set_option maxRecDepth 100000 in
theorem lL_148 : tf_okV RL 148 0 8 mX11_on := by unfold tf_okV tf_okL; decide +kernel

set_option maxRecDepth 100000 in
theorem lL_149 : tf_okV RL 149 1 7 mX10_count := by unfold tf_okV tf_okL; decide +kernel

set_option maxRecDepth 100000 in
theorem lL_152 : tf_okV RL 152 1 8 mX11_count := by unfold tf_okV tf_okL; decide +kernel

theorem mdG {N : Nat} : tf_mo (tf_GG N) 125 ∧ tf_md (tf_GG N) 125 := ⟨⟨rfl, ⟨Nat.succ_ne_zero _, rfl, rfl⟩, ⟨Nat.succ_ne_zero _, rfl, rfl⟩, ⟨Nat.succ_ne_zero _, rfl, rfl⟩, ⟨Nat.succ_ne_zero _, rfl, rfl⟩⟩, by show 126 ≠ 127; decide, by show 126 ≠ 128; decide, by show 126 ≠ 129; decide, by show 127 ≠ 128; decide, by show 127 ≠ 129; decide, by show 128 ≠ 129; decide⟩
theorem ms_fc {N : Nat} {S X : tf_Sg} {A : tf_A} (h : tf_ms (tf_GG N) S 125 A) (hf : tf_fc S X) : tf_ms (tf_GG N) X 125 A := by
  obtain ⟨h1, h2, h3, h4, h5, h6⟩ := h
  refine ⟨fun k => ?_, fun k => ?_, ?_, fun k => ?_, fun k => ?_, ?_⟩
  · rw [hf (tf_rf (tf_GG N) 125 1) (Or.inr (by show 125 ≤ 127; decide))]; exact h1 k
  · rw [hf (tf_rf (tf_GG N) 125 4) (Or.inr (by show 125 ≤ 129; decide))]; exact h2 k
  · rw [hf 125 (by omega)]; exact h3
  · rw [hf (tf_rf (tf_GG N) 125 0) (Or.inr (by show 125 ≤ 126; decide))]; exact h4 k
  · rw [hf (tf_rf (tf_GG N) 125 2) (Or.inr (by show 125 ≤ 128; decide))]; exact h5 k
  · rw [hf 125 (by omega)]; exact h6
theorem fm_le {N : Nat} {S X : tf_Sg} (h : tf_fm (tf_GG N) 125 S X) : ∀ a, a < 125 → X a = S a := fun a ha => h a (by omega) (by show a ≠ 126; omega) (by show a ≠ 127; omega) (by show a ≠ 128; omega) (by show a ≠ 129; omega)
theorem cs_fm {N : Nat} {S X : tf_Sg} {A : tf_A} (hA : tf_okA A) (hC : tf_cs S A) (h : tf_fm (tf_GG N) 125 S X) : tf_cs X A := by
  have e := fm_le h
  obtain ⟨h1, h2, h3, ⟨h4, h5⟩, h6, h7⟩ := hC
  exact ⟨by rw [e 1 (by omega)]; exact h1, tf_st_c h2 hA.1 (fun a _ q => e a (by omega)), tf_kept hA h3 (fun a _ q => e a (by omega)), ⟨by rw [e 109 (by omega)]; exact h4, by rw [e 110 (by omega)]; exact h5⟩, by rw [e 124 (by omega)]; exact h6, by rw [e 4 (by omega)]; exact h7⟩
theorem and31 (x : Int32) : ∃ v, v < 32 ∧ x &&& 31 = nI v := by
  refine ⟨(x.toBitVec &&& 31#32).toNat, ?_, ?_⟩
  · rw [BitVec.toNat_and]
    exact Nat.lt_of_le_of_lt Nat.and_le_right (by decide)
  · apply Int32.toBitVec_inj.mp
    rw [Int32.toBitVec_and]
    show x.toBitVec &&& 31#32 = BitVec.ofNat 32 _
    rw [BitVec.ofNat_toNat, BitVec.setWidth_eq]

def tL_law : tf_T := [(0, .new 7, 3, 0, 0),
  (3, .dup, 4, 0, 0),
  (4, .invokespecial 9, 7, 0, 0),
  (7, .astore_n 1, 8, 0, 0),
  (8, .new 10, 11, 0, 0),
  (11, .dup, 12, 0, 0),
  (12, .invokespecial 12, 15, 0, 0),
  (15, .astore_n 2, 16, 0, 0),
  (16, .iconst 0, 17, 0, 0),
  (17, .istore_n 3, 18, 0, 0),
  (18, .iload_n 3, 19, 0, 0),
  (19, .aload_n 0, 20, 0, 0),
  (20, .arraylength, 21, 0, 0),
  (21, .iconst 5, 22, 0, 5),
  (22, .isub, 23, 0, 0),
  (23, .if_icmp .gt 1285, 26, 1308, 0),
  (26, .aload_n 0, 27, 0, 0),
  (27, .iload_n 3, 28, 0, 0),
  (28, .iaload, 29, 0, 0),
  (29, .bipush 31, 31, 0, 31),
  (31, .iand, 32, 0, 0),
  (32, .tableswitch 1270 0 31 #[144, 207, 230, 269, 282, 315, 348, 397, 440, 493, 542, 575, 608, 621, 680, 703, 736, 779, 812, 855, 898, 921, 934, 967, 990, 1049, 1082, 1125, 1178, 1221, 1234, 1247], 176, 0, 0),
  (1308, .iconst 1, 1309, 0, 1),
  (1309, .ireturn, 1310, 0, 0)]
set_option maxRecDepth 100000 in
theorem okL_law : tf_okT cL_law tL_law := by unfold tf_okT; decide +kernel
theorem ftL_law : 1 ≤ 9 ∧ tf_okF RL fL ∧ tf_okT cL_law tL_law := ⟨by decide, okfL, okL_law⟩

def tL_case0 : tf_T := [(176, .aload_n 1, 177, 0, 0),
  (177, .aload_n 0, 178, 0, 0),
  (178, .iload_n 3, 179, 0, 0),
  (179, .iconst 1, 180, 0, 1),
  (180, .iadd, 181, 0, 0),
  (181, .iaload, 182, 0, 0),
  (182, .aload_n 0, 183, 0, 0),
  (183, .iload_n 3, 184, 0, 0),
  (184, .iconst 2, 185, 0, 2),
  (185, .iadd, 186, 0, 0),
  (186, .iaload, 187, 0, 0),
  (187, .i2l, 188, 0, 0),
  (188, .bipush 32, 190, 0, 32),
  (190, .lshl, 191, 0, 0),
  (191, .aload_n 0, 192, 0, 0),
  (192, .iload_n 3, 193, 0, 0),
  (193, .iconst 3, 194, 0, 3),
  (194, .iadd, 195, 0, 0),
  (195, .iaload, 196, 0, 0),
  (196, .i2l, 197, 0, 0),
  (197, .ldc2_w 13, 200, 0, 0),
  (200, .land, 201, 0, 0),
  (201, .lor, 202, 0, 0),
  (202, .invokevirtual 15, 205, 0, 0),
  (205, .aload_n 2, 206, 0, 0),
  (206, .aload_n 0, 207, 0, 0),
  (207, .iload_n 3, 208, 0, 0),
  (208, .iconst 1, 209, 0, 1),
  (209, .iadd, 210, 0, 0),
  (210, .iaload, 211, 0, 0),
  (211, .aload_n 0, 212, 0, 0),
  (212, .iload_n 3, 213, 0, 0),
  (213, .iconst 2, 214, 0, 2),
  (214, .iadd, 215, 0, 0),
  (215, .iaload, 216, 0, 0),
  (216, .i2l, 217, 0, 0),
  (217, .bipush 32, 219, 0, 32),
  (219, .lshl, 220, 0, 0),
  (220, .aload_n 0, 221, 0, 0),
  (221, .iload_n 3, 222, 0, 0),
  (222, .iconst 3, 223, 0, 3),
  (223, .iadd, 224, 0, 0),
  (224, .iaload, 225, 0, 0),
  (225, .i2l, 226, 0, 0),
  (226, .ldc2_w 13, 229, 0, 0),
  (229, .land, 230, 0, 0),
  (230, .lor, 231, 0, 0),
  (231, .invokevirtual 19, 234, 0, 0),
  (234, .if_icmp .eq 1068, 237, 1302, 0),
  (237, .iconst 0, 238, 0, 0),
  (238, .ireturn, 239, 0, 0),
  (1302, .iinc 3 5, 1305, 0, 5),
  (1305, .goto (-1287), 1308, 18, 0)]
set_option maxRecDepth 100000 in
theorem okL_case0 : tf_okT cL_law tL_case0 := by unfold tf_okT; decide +kernel
theorem ftL_case0 : 1 ≤ 9 ∧ tf_okF RL fL ∧ tf_okT cL_law tL_case0 := ⟨by decide, okfL, okL_case0⟩

def tL_case1 : tf_T := [(239, .aload_n 1, 240, 0, 0),
  (240, .aload_n 0, 241, 0, 0),
  (241, .iload_n 3, 242, 0, 0),
  (242, .iconst 1, 243, 0, 1),
  (243, .iadd, 244, 0, 0),
  (244, .iaload, 245, 0, 0),
  (245, .invokevirtual 20, 248, 0, 0),
  (248, .aload_n 2, 249, 0, 0),
  (249, .aload_n 0, 250, 0, 0),
  (250, .iload_n 3, 251, 0, 0),
  (251, .iconst 1, 252, 0, 1),
  (252, .iadd, 253, 0, 0),
  (253, .iaload, 254, 0, 0),
  (254, .invokevirtual 24, 257, 0, 0),
  (257, .if_icmp .eq 1045, 260, 1302, 0),
  (260, .iconst 0, 261, 0, 0),
  (261, .ireturn, 262, 0, 0),
  (1302, .iinc 3 5, 1305, 0, 5),
  (1305, .goto (-1287), 1308, 18, 0)]
set_option maxRecDepth 100000 in
theorem okL_case1 : tf_okT cL_law tL_case1 := by unfold tf_okT; decide +kernel
theorem ftL_case1 : 1 ≤ 9 ∧ tf_okF RL fL ∧ tf_okT cL_law tL_case1 := ⟨by decide, okfL, okL_case1⟩

def tL_case2 : tf_T := [(262, .aload_n 1, 263, 0, 0),
  (263, .aload_n 0, 264, 0, 0),
  (264, .iload_n 3, 265, 0, 0),
  (265, .iconst 1, 266, 0, 1),
  (266, .iadd, 267, 0, 0),
  (267, .iaload, 268, 0, 0),
  (268, .ifCond .eq 7, 271, 275, 0),
  (271, .iconst 1, 272, 0, 1),
  (272, .goto 4, 275, 276, 0),
  (275, .iconst 0, 276, 0, 0),
  (276, .invokevirtual 25, 279, 0, 0),
  (279, .aload_n 2, 280, 0, 0),
  (280, .aload_n 0, 281, 0, 0),
  (281, .iload_n 3, 282, 0, 0),
  (282, .iconst 1, 283, 0, 1),
  (283, .iadd, 284, 0, 0),
  (284, .iaload, 285, 0, 0),
  (285, .ifCond .eq 7, 288, 292, 0),
  (288, .iconst 1, 289, 0, 1),
  (289, .goto 4, 292, 293, 0),
  (292, .iconst 0, 293, 0, 0),
  (293, .invokevirtual 29, 296, 0, 0),
  (296, .if_icmp .eq 1006, 299, 1302, 0),
  (299, .iconst 0, 300, 0, 0),
  (300, .ireturn, 301, 0, 0),
  (1302, .iinc 3 5, 1305, 0, 5),
  (1305, .goto (-1287), 1308, 18, 0)]
set_option maxRecDepth 100000 in
theorem okL_case2 : tf_okT cL_law tL_case2 := by unfold tf_okT; decide +kernel
theorem ftL_case2 : 1 ≤ 9 ∧ tf_okF RL fL ∧ tf_okT cL_law tL_case2 := ⟨by decide, okfL, okL_case2⟩

def tL_case3 : tf_T := [(301, .aload_n 1, 302, 0, 0),
  (302, .invokevirtual 30, 305, 0, 0),
  (305, .aload_n 2, 306, 0, 0),
  (306, .invokevirtual 34, 309, 0, 0),
  (309, .if_icmp .eq 993, 312, 1302, 0),
  (312, .iconst 0, 313, 0, 0),
  (313, .ireturn, 314, 0, 0),
  (1302, .iinc 3 5, 1305, 0, 5),
  (1305, .goto (-1287), 1308, 18, 0)]
set_option maxRecDepth 100000 in
theorem okL_case3 : tf_okT cL_law tL_case3 := by unfold tf_okT; decide +kernel
theorem ftL_case3 : 1 ≤ 9 ∧ tf_okF RL fL ∧ tf_okT cL_law tL_case3 := ⟨by decide, okfL, okL_case3⟩

def tL_case4 : tf_T := [(314, .aload_n 1, 315, 0, 0),
  (315, .aload_n 0, 316, 0, 0),
  (316, .iload_n 3, 317, 0, 0),
  (317, .iconst 1, 318, 0, 1),
  (318, .iadd, 319, 0, 0),
  (319, .iaload, 320, 0, 0),
  (320, .aload_n 0, 321, 0, 0),
  (321, .iload_n 3, 322, 0, 0),
  (322, .iconst 2, 323, 0, 2),
  (323, .iadd, 324, 0, 0),
  (324, .iaload, 325, 0, 0),
  (325, .invokevirtual 35, 328, 0, 0),
  (328, .aload_n 2, 329, 0, 0),
  (329, .aload_n 0, 330, 0, 0),
  (330, .iload_n 3, 331, 0, 0),
  (331, .iconst 1, 332, 0, 1),
  (332, .iadd, 333, 0, 0),
  (333, .iaload, 334, 0, 0),
  (334, .aload_n 0, 335, 0, 0),
  (335, .iload_n 3, 336, 0, 0),
  (336, .iconst 2, 337, 0, 2),
  (337, .iadd, 338, 0, 0),
  (338, .iaload, 339, 0, 0),
  (339, .invokevirtual 39, 342, 0, 0),
  (342, .if_icmp .eq 960, 345, 1302, 0),
  (345, .iconst 0, 346, 0, 0),
  (346, .ireturn, 347, 0, 0),
  (1302, .iinc 3 5, 1305, 0, 5),
  (1305, .goto (-1287), 1308, 18, 0)]
set_option maxRecDepth 100000 in
theorem okL_case4 : tf_okT cL_law tL_case4 := by unfold tf_okT; decide +kernel
theorem ftL_case4 : 1 ≤ 9 ∧ tf_okF RL fL ∧ tf_okT cL_law tL_case4 := ⟨by decide, okfL, okL_case4⟩

def tL_case5 : tf_T := [(347, .aload_n 1, 348, 0, 0),
  (348, .aload_n 0, 349, 0, 0),
  (349, .iload_n 3, 350, 0, 0),
  (350, .iconst 1, 351, 0, 1),
  (351, .iadd, 352, 0, 0),
  (352, .iaload, 353, 0, 0),
  (353, .aload_n 0, 354, 0, 0),
  (354, .iload_n 3, 355, 0, 0),
  (355, .iconst 2, 356, 0, 2),
  (356, .iadd, 357, 0, 0),
  (357, .iaload, 358, 0, 0),
  (358, .invokevirtual 40, 361, 0, 0),
  (361, .aload_n 2, 362, 0, 0),
  (362, .aload_n 0, 363, 0, 0),
  (363, .iload_n 3, 364, 0, 0),
  (364, .iconst 1, 365, 0, 1),
  (365, .iadd, 366, 0, 0),
  (366, .iaload, 367, 0, 0),
  (367, .aload_n 0, 368, 0, 0),
  (368, .iload_n 3, 369, 0, 0),
  (369, .iconst 2, 370, 0, 2),
  (370, .iadd, 371, 0, 0),
  (371, .iaload, 372, 0, 0),
  (372, .invokevirtual 43, 375, 0, 0),
  (375, .if_icmp .eq 927, 378, 1302, 0),
  (378, .iconst 0, 379, 0, 0),
  (379, .ireturn, 380, 0, 0),
  (1302, .iinc 3 5, 1305, 0, 5),
  (1305, .goto (-1287), 1308, 18, 0)]
set_option maxRecDepth 100000 in
theorem okL_case5 : tf_okT cL_law tL_case5 := by unfold tf_okT; decide +kernel
theorem ftL_case5 : 1 ≤ 9 ∧ tf_okF RL fL ∧ tf_okT cL_law tL_case5 := ⟨by decide, okfL, okL_case5⟩

def tL_case6 : tf_T := [(380, .aload_n 1, 381, 0, 0),
  (381, .aload_n 0, 382, 0, 0),
  (382, .iload_n 3, 383, 0, 0),
  (383, .iconst 1, 384, 0, 1),
  (384, .iadd, 385, 0, 0),
  (385, .iaload, 386, 0, 0),
  (386, .aload_n 0, 387, 0, 0),
  (387, .iload_n 3, 388, 0, 0),
  (388, .iconst 2, 389, 0, 2),
  (389, .iadd, 390, 0, 0),
  (390, .iaload, 391, 0, 0),
  (391, .ifCond .eq 7, 394, 398, 0),
  (394, .iconst 1, 395, 0, 1),
  (395, .goto 4, 398, 399, 0),
  (398, .iconst 0, 399, 0, 0),
  (399, .invokevirtual 44, 402, 0, 0),
  (402, .aload_n 2, 403, 0, 0),
  (403, .aload_n 0, 404, 0, 0),
  (404, .iload_n 3, 405, 0, 0),
  (405, .iconst 1, 406, 0, 1),
  (406, .iadd, 407, 0, 0),
  (407, .iaload, 408, 0, 0),
  (408, .aload_n 0, 409, 0, 0),
  (409, .iload_n 3, 410, 0, 0),
  (410, .iconst 2, 411, 0, 2),
  (411, .iadd, 412, 0, 0),
  (412, .iaload, 413, 0, 0),
  (413, .ifCond .eq 7, 416, 420, 0),
  (416, .iconst 1, 417, 0, 1),
  (417, .goto 4, 420, 421, 0),
  (420, .iconst 0, 421, 0, 0),
  (421, .invokevirtual 48, 424, 0, 0),
  (424, .if_icmp .eq 878, 427, 1302, 0),
  (427, .iconst 0, 428, 0, 0),
  (428, .ireturn, 429, 0, 0),
  (1302, .iinc 3 5, 1305, 0, 5),
  (1305, .goto (-1287), 1308, 18, 0)]
set_option maxRecDepth 100000 in
theorem okL_case6 : tf_okT cL_law tL_case6 := by unfold tf_okT; decide +kernel
theorem ftL_case6 : 1 ≤ 9 ∧ tf_okF RL fL ∧ tf_okT cL_law tL_case6 := ⟨by decide, okfL, okL_case6⟩

def tL_case7 : tf_T := [(429, .aload_n 1, 430, 0, 0),
  (430, .aload_n 0, 431, 0, 0),
  (431, .iload_n 3, 432, 0, 0),
  (432, .iconst 1, 433, 0, 1),
  (433, .iadd, 434, 0, 0),
  (434, .iaload, 435, 0, 0),
  (435, .aload_n 0, 436, 0, 0),
  (436, .iload_n 3, 437, 0, 0),
  (437, .iconst 2, 438, 0, 2),
  (438, .iadd, 439, 0, 0),
  (439, .iaload, 440, 0, 0),
  (440, .aload_n 0, 441, 0, 0),
  (441, .iload_n 3, 442, 0, 0),
  (442, .iconst 3, 443, 0, 3),
  (443, .iadd, 444, 0, 0),
  (444, .iaload, 445, 0, 0),
  (445, .invokevirtual 49, 448, 0, 0),
  (448, .aload_n 2, 449, 0, 0),
  (449, .aload_n 0, 450, 0, 0),
  (450, .iload_n 3, 451, 0, 0),
  (451, .iconst 1, 452, 0, 1),
  (452, .iadd, 453, 0, 0),
  (453, .iaload, 454, 0, 0),
  (454, .aload_n 0, 455, 0, 0),
  (455, .iload_n 3, 456, 0, 0),
  (456, .iconst 2, 457, 0, 2),
  (457, .iadd, 458, 0, 0),
  (458, .iaload, 459, 0, 0),
  (459, .aload_n 0, 460, 0, 0),
  (460, .iload_n 3, 461, 0, 0),
  (461, .iconst 3, 462, 0, 3),
  (462, .iadd, 463, 0, 0),
  (463, .iaload, 464, 0, 0),
  (464, .invokevirtual 53, 467, 0, 0),
  (467, .if_icmp .eq 835, 470, 1302, 0),
  (470, .iconst 0, 471, 0, 0),
  (471, .ireturn, 472, 0, 0),
  (1302, .iinc 3 5, 1305, 0, 5),
  (1305, .goto (-1287), 1308, 18, 0)]
set_option maxRecDepth 100000 in
theorem okL_case7 : tf_okT cL_law tL_case7 := by unfold tf_okT; decide +kernel
theorem ftL_case7 : 1 ≤ 9 ∧ tf_okF RL fL ∧ tf_okT cL_law tL_case7 := ⟨by decide, okfL, okL_case7⟩

def tL_case8 : tf_T := [(472, .aload_n 1, 473, 0, 0),
  (473, .aload_n 0, 474, 0, 0),
  (474, .iload_n 3, 475, 0, 0),
  (475, .iconst 1, 476, 0, 1),
  (476, .iadd, 477, 0, 0),
  (477, .iaload, 478, 0, 0),
  (478, .aload_n 0, 479, 0, 0),
  (479, .iload_n 3, 480, 0, 0),
  (480, .iconst 2, 481, 0, 2),
  (481, .iadd, 482, 0, 0),
  (482, .iaload, 483, 0, 0),
  (483, .aload_n 0, 484, 0, 0),
  (484, .iload_n 3, 485, 0, 0),
  (485, .iconst 3, 486, 0, 3),
  (486, .iadd, 487, 0, 0),
  (487, .iaload, 488, 0, 0),
  (488, .aload_n 0, 489, 0, 0),
  (489, .iload_n 3, 490, 0, 0),
  (490, .iconst 4, 491, 0, 4),
  (491, .iadd, 492, 0, 0),
  (492, .iaload, 493, 0, 0),
  (493, .invokevirtual 54, 496, 0, 0),
  (496, .aload_n 2, 497, 0, 0),
  (497, .aload_n 0, 498, 0, 0),
  (498, .iload_n 3, 499, 0, 0),
  (499, .iconst 1, 500, 0, 1),
  (500, .iadd, 501, 0, 0),
  (501, .iaload, 502, 0, 0),
  (502, .aload_n 0, 503, 0, 0),
  (503, .iload_n 3, 504, 0, 0),
  (504, .iconst 2, 505, 0, 2),
  (505, .iadd, 506, 0, 0),
  (506, .iaload, 507, 0, 0),
  (507, .aload_n 0, 508, 0, 0),
  (508, .iload_n 3, 509, 0, 0),
  (509, .iconst 3, 510, 0, 3),
  (510, .iadd, 511, 0, 0),
  (511, .iaload, 512, 0, 0),
  (512, .aload_n 0, 513, 0, 0),
  (513, .iload_n 3, 514, 0, 0),
  (514, .iconst 4, 515, 0, 4),
  (515, .iadd, 516, 0, 0),
  (516, .iaload, 517, 0, 0),
  (517, .invokevirtual 58, 520, 0, 0),
  (520, .if_icmp .eq 782, 523, 1302, 0),
  (523, .iconst 0, 524, 0, 0),
  (524, .ireturn, 525, 0, 0),
  (1302, .iinc 3 5, 1305, 0, 5),
  (1305, .goto (-1287), 1308, 18, 0)]
set_option maxRecDepth 100000 in
theorem okL_case8 : tf_okT cL_law tL_case8 := by unfold tf_okT; decide +kernel
theorem ftL_case8 : 1 ≤ 9 ∧ tf_okF RL fL ∧ tf_okT cL_law tL_case8 := ⟨by decide, okfL, okL_case8⟩

def tL_case9 : tf_T := [(525, .aload_n 1, 526, 0, 0),
  (526, .aload_n 0, 527, 0, 0),
  (527, .iload_n 3, 528, 0, 0),
  (528, .iconst 1, 529, 0, 1),
  (529, .iadd, 530, 0, 0),
  (530, .iaload, 531, 0, 0),
  (531, .ifCond .eq 7, 534, 538, 0),
  (534, .iconst 1, 535, 0, 1),
  (535, .goto 4, 538, 539, 0),
  (538, .iconst 0, 539, 0, 0),
  (539, .aload_n 0, 540, 0, 0),
  (540, .iload_n 3, 541, 0, 0),
  (541, .iconst 2, 542, 0, 2),
  (542, .iadd, 543, 0, 0),
  (543, .iaload, 544, 0, 0),
  (544, .invokevirtual 59, 547, 0, 0),
  (547, .aload_n 2, 548, 0, 0),
  (548, .aload_n 0, 549, 0, 0),
  (549, .iload_n 3, 550, 0, 0),
  (550, .iconst 1, 551, 0, 1),
  (551, .iadd, 552, 0, 0),
  (552, .iaload, 553, 0, 0),
  (553, .ifCond .eq 7, 556, 560, 0),
  (556, .iconst 1, 557, 0, 1),
  (557, .goto 4, 560, 561, 0),
  (560, .iconst 0, 561, 0, 0),
  (561, .aload_n 0, 562, 0, 0),
  (562, .iload_n 3, 563, 0, 0),
  (563, .iconst 2, 564, 0, 2),
  (564, .iadd, 565, 0, 0),
  (565, .iaload, 566, 0, 0),
  (566, .invokevirtual 63, 569, 0, 0),
  (569, .if_icmp .eq 733, 572, 1302, 0),
  (572, .iconst 0, 573, 0, 0),
  (573, .ireturn, 574, 0, 0),
  (1302, .iinc 3 5, 1305, 0, 5),
  (1305, .goto (-1287), 1308, 18, 0)]
set_option maxRecDepth 100000 in
theorem okL_case9 : tf_okT cL_law tL_case9 := by unfold tf_okT; decide +kernel
theorem ftL_case9 : 1 ≤ 9 ∧ tf_okF RL fL ∧ tf_okT cL_law tL_case9 := ⟨by decide, okfL, okL_case9⟩

def tL_case10 : tf_T := [(574, .aload_n 1, 575, 0, 0),
  (575, .aload_n 0, 576, 0, 0),
  (576, .iload_n 3, 577, 0, 0),
  (577, .iconst 1, 578, 0, 1),
  (578, .iadd, 579, 0, 0),
  (579, .iaload, 580, 0, 0),
  (580, .aload_n 0, 581, 0, 0),
  (581, .iload_n 3, 582, 0, 0),
  (582, .iconst 2, 583, 0, 2),
  (583, .iadd, 584, 0, 0),
  (584, .iaload, 585, 0, 0),
  (585, .invokevirtual 64, 588, 0, 0),
  (588, .aload_n 2, 589, 0, 0),
  (589, .aload_n 0, 590, 0, 0),
  (590, .iload_n 3, 591, 0, 0),
  (591, .iconst 1, 592, 0, 1),
  (592, .iadd, 593, 0, 0),
  (593, .iaload, 594, 0, 0),
  (594, .aload_n 0, 595, 0, 0),
  (595, .iload_n 3, 596, 0, 0),
  (596, .iconst 2, 597, 0, 2),
  (597, .iadd, 598, 0, 0),
  (598, .iaload, 599, 0, 0),
  (599, .invokevirtual 67, 602, 0, 0),
  (602, .if_icmp .eq 700, 605, 1302, 0),
  (605, .iconst 0, 606, 0, 0),
  (606, .ireturn, 607, 0, 0),
  (1302, .iinc 3 5, 1305, 0, 5),
  (1305, .goto (-1287), 1308, 18, 0)]
set_option maxRecDepth 100000 in
theorem okL_case10 : tf_okT cL_law tL_case10 := by unfold tf_okT; decide +kernel
theorem ftL_case10 : 1 ≤ 9 ∧ tf_okF RL fL ∧ tf_okT cL_law tL_case10 := ⟨by decide, okfL, okL_case10⟩

def tL_case11 : tf_T := [(607, .aload_n 1, 608, 0, 0),
  (608, .aload_n 0, 609, 0, 0),
  (609, .iload_n 3, 610, 0, 0),
  (610, .iconst 1, 611, 0, 1),
  (611, .iadd, 612, 0, 0),
  (612, .iaload, 613, 0, 0),
  (613, .aload_n 0, 614, 0, 0),
  (614, .iload_n 3, 615, 0, 0),
  (615, .iconst 2, 616, 0, 2),
  (616, .iadd, 617, 0, 0),
  (617, .iaload, 618, 0, 0),
  (618, .invokevirtual 68, 621, 0, 0),
  (621, .aload_n 2, 622, 0, 0),
  (622, .aload_n 0, 623, 0, 0),
  (623, .iload_n 3, 624, 0, 0),
  (624, .iconst 1, 625, 0, 1),
  (625, .iadd, 626, 0, 0),
  (626, .iaload, 627, 0, 0),
  (627, .aload_n 0, 628, 0, 0),
  (628, .iload_n 3, 629, 0, 0),
  (629, .iconst 2, 630, 0, 2),
  (630, .iadd, 631, 0, 0),
  (631, .iaload, 632, 0, 0),
  (632, .invokevirtual 71, 635, 0, 0),
  (635, .if_icmp .eq 667, 638, 1302, 0),
  (638, .iconst 0, 639, 0, 0),
  (639, .ireturn, 640, 0, 0),
  (1302, .iinc 3 5, 1305, 0, 5),
  (1305, .goto (-1287), 1308, 18, 0)]
set_option maxRecDepth 100000 in
theorem okL_case11 : tf_okT cL_law tL_case11 := by unfold tf_okT; decide +kernel
theorem ftL_case11 : 1 ≤ 9 ∧ tf_okF RL fL ∧ tf_okT cL_law tL_case11 := ⟨by decide, okfL, okL_case11⟩

def tL_case12 : tf_T := [(640, .aload_n 1, 641, 0, 0),
  (641, .invokevirtual 72, 644, 0, 0),
  (644, .aload_n 2, 645, 0, 0),
  (645, .invokevirtual 75, 648, 0, 0),
  (648, .if_icmp .eq 654, 651, 1302, 0),
  (651, .iconst 0, 652, 0, 0),
  (652, .ireturn, 653, 0, 0),
  (1302, .iinc 3 5, 1305, 0, 5),
  (1305, .goto (-1287), 1308, 18, 0)]
set_option maxRecDepth 100000 in
theorem okL_case12 : tf_okT cL_law tL_case12 := by unfold tf_okT; decide +kernel
theorem ftL_case12 : 1 ≤ 9 ∧ tf_okF RL fL ∧ tf_okT cL_law tL_case12 := ⟨by decide, okfL, okL_case12⟩

def tL_case13 : tf_T := [(653, .aload_n 1, 654, 0, 0),
  (654, .aload_n 0, 655, 0, 0),
  (655, .iload_n 3, 656, 0, 0),
  (656, .iconst 1, 657, 0, 1),
  (657, .iadd, 658, 0, 0),
  (658, .iaload, 659, 0, 0),
  (659, .aload_n 0, 660, 0, 0),
  (660, .iload_n 3, 661, 0, 0),
  (661, .iconst 2, 662, 0, 2),
  (662, .iadd, 663, 0, 0),
  (663, .iaload, 664, 0, 0),
  (664, .aload_n 0, 665, 0, 0),
  (665, .iload_n 3, 666, 0, 0),
  (666, .iconst 3, 667, 0, 3),
  (667, .iadd, 668, 0, 0),
  (668, .iaload, 669, 0, 0),
  (669, .ifCond .eq 7, 672, 676, 0),
  (672, .iconst 1, 673, 0, 1),
  (673, .goto 4, 676, 677, 0),
  (676, .iconst 0, 677, 0, 0),
  (677, .invokevirtual 76, 680, 0, 0),
  (680, .aload_n 2, 681, 0, 0),
  (681, .aload_n 0, 682, 0, 0),
  (682, .iload_n 3, 683, 0, 0),
  (683, .iconst 1, 684, 0, 1),
  (684, .iadd, 685, 0, 0),
  (685, .iaload, 686, 0, 0),
  (686, .aload_n 0, 687, 0, 0),
  (687, .iload_n 3, 688, 0, 0),
  (688, .iconst 2, 689, 0, 2),
  (689, .iadd, 690, 0, 0),
  (690, .iaload, 691, 0, 0),
  (691, .aload_n 0, 692, 0, 0),
  (692, .iload_n 3, 693, 0, 0),
  (693, .iconst 3, 694, 0, 3),
  (694, .iadd, 695, 0, 0),
  (695, .iaload, 696, 0, 0),
  (696, .ifCond .eq 7, 699, 703, 0),
  (699, .iconst 1, 700, 0, 1),
  (700, .goto 4, 703, 704, 0),
  (703, .iconst 0, 704, 0, 0),
  (704, .invokevirtual 80, 707, 0, 0),
  (707, .if_icmp .eq 595, 710, 1302, 0),
  (710, .iconst 0, 711, 0, 0),
  (711, .ireturn, 712, 0, 0),
  (1302, .iinc 3 5, 1305, 0, 5),
  (1305, .goto (-1287), 1308, 18, 0)]
set_option maxRecDepth 100000 in
theorem okL_case13 : tf_okT cL_law tL_case13 := by unfold tf_okT; decide +kernel
theorem ftL_case13 : 1 ≤ 9 ∧ tf_okF RL fL ∧ tf_okT cL_law tL_case13 := ⟨by decide, okfL, okL_case13⟩

def tL_case14 : tf_T := [(712, .aload_n 1, 713, 0, 0),
  (713, .aload_n 0, 714, 0, 0),
  (714, .iload_n 3, 715, 0, 0),
  (715, .iconst 1, 716, 0, 1),
  (716, .iadd, 717, 0, 0),
  (717, .iaload, 718, 0, 0),
  (718, .invokevirtual 81, 721, 0, 0),
  (721, .aload_n 2, 722, 0, 0),
  (722, .aload_n 0, 723, 0, 0),
  (723, .iload_n 3, 724, 0, 0),
  (724, .iconst 1, 725, 0, 1),
  (725, .iadd, 726, 0, 0),
  (726, .iaload, 727, 0, 0),
  (727, .invokevirtual 84, 730, 0, 0),
  (730, .if_icmp .eq 572, 733, 1302, 0),
  (733, .iconst 0, 734, 0, 0),
  (734, .ireturn, 735, 0, 0),
  (1302, .iinc 3 5, 1305, 0, 5),
  (1305, .goto (-1287), 1308, 18, 0)]
set_option maxRecDepth 100000 in
theorem okL_case14 : tf_okT cL_law tL_case14 := by unfold tf_okT; decide +kernel
theorem ftL_case14 : 1 ≤ 9 ∧ tf_okF RL fL ∧ tf_okT cL_law tL_case14 := ⟨by decide, okfL, okL_case14⟩

def tL_case15 : tf_T := [(735, .aload_n 1, 736, 0, 0),
  (736, .aload_n 0, 737, 0, 0),
  (737, .iload_n 3, 738, 0, 0),
  (738, .iconst 1, 739, 0, 1),
  (739, .iadd, 740, 0, 0),
  (740, .iaload, 741, 0, 0),
  (741, .aload_n 0, 742, 0, 0),
  (742, .iload_n 3, 743, 0, 0),
  (743, .iconst 2, 744, 0, 2),
  (744, .iadd, 745, 0, 0),
  (745, .iaload, 746, 0, 0),
  (746, .invokevirtual 85, 749, 0, 0),
  (749, .aload_n 2, 750, 0, 0),
  (750, .aload_n 0, 751, 0, 0),
  (751, .iload_n 3, 752, 0, 0),
  (752, .iconst 1, 753, 0, 1),
  (753, .iadd, 754, 0, 0),
  (754, .iaload, 755, 0, 0),
  (755, .aload_n 0, 756, 0, 0),
  (756, .iload_n 3, 757, 0, 0),
  (757, .iconst 2, 758, 0, 2),
  (758, .iadd, 759, 0, 0),
  (759, .iaload, 760, 0, 0),
  (760, .invokevirtual 88, 763, 0, 0),
  (763, .if_icmp .eq 539, 766, 1302, 0),
  (766, .iconst 0, 767, 0, 0),
  (767, .ireturn, 768, 0, 0),
  (1302, .iinc 3 5, 1305, 0, 5),
  (1305, .goto (-1287), 1308, 18, 0)]
set_option maxRecDepth 100000 in
theorem okL_case15 : tf_okT cL_law tL_case15 := by unfold tf_okT; decide +kernel
theorem ftL_case15 : 1 ≤ 9 ∧ tf_okF RL fL ∧ tf_okT cL_law tL_case15 := ⟨by decide, okfL, okL_case15⟩

def tL_case16 : tf_T := [(768, .aload_n 1, 769, 0, 0),
  (769, .aload_n 0, 770, 0, 0),
  (770, .iload_n 3, 771, 0, 0),
  (771, .iconst 1, 772, 0, 1),
  (772, .iadd, 773, 0, 0),
  (773, .iaload, 774, 0, 0),
  (774, .aload_n 0, 775, 0, 0),
  (775, .iload_n 3, 776, 0, 0),
  (776, .iconst 2, 777, 0, 2),
  (777, .iadd, 778, 0, 0),
  (778, .iaload, 779, 0, 0),
  (779, .aload_n 0, 780, 0, 0),
  (780, .iload_n 3, 781, 0, 0),
  (781, .iconst 3, 782, 0, 3),
  (782, .iadd, 783, 0, 0),
  (783, .iaload, 784, 0, 0),
  (784, .invokevirtual 89, 787, 0, 0),
  (787, .aload_n 2, 788, 0, 0),
  (788, .aload_n 0, 789, 0, 0),
  (789, .iload_n 3, 790, 0, 0),
  (790, .iconst 1, 791, 0, 1),
  (791, .iadd, 792, 0, 0),
  (792, .iaload, 793, 0, 0),
  (793, .aload_n 0, 794, 0, 0),
  (794, .iload_n 3, 795, 0, 0),
  (795, .iconst 2, 796, 0, 2),
  (796, .iadd, 797, 0, 0),
  (797, .iaload, 798, 0, 0),
  (798, .aload_n 0, 799, 0, 0),
  (799, .iload_n 3, 800, 0, 0),
  (800, .iconst 3, 801, 0, 3),
  (801, .iadd, 802, 0, 0),
  (802, .iaload, 803, 0, 0),
  (803, .invokevirtual 92, 806, 0, 0),
  (806, .if_icmp .eq 496, 809, 1302, 0),
  (809, .iconst 0, 810, 0, 0),
  (810, .ireturn, 811, 0, 0),
  (1302, .iinc 3 5, 1305, 0, 5),
  (1305, .goto (-1287), 1308, 18, 0)]
set_option maxRecDepth 100000 in
theorem okL_case16 : tf_okT cL_law tL_case16 := by unfold tf_okT; decide +kernel
theorem ftL_case16 : 1 ≤ 9 ∧ tf_okF RL fL ∧ tf_okT cL_law tL_case16 := ⟨by decide, okfL, okL_case16⟩

def tL_case17 : tf_T := [(811, .aload_n 1, 812, 0, 0),
  (812, .aload_n 0, 813, 0, 0),
  (813, .iload_n 3, 814, 0, 0),
  (814, .iconst 1, 815, 0, 1),
  (815, .iadd, 816, 0, 0),
  (816, .iaload, 817, 0, 0),
  (817, .aload_n 0, 818, 0, 0),
  (818, .iload_n 3, 819, 0, 0),
  (819, .iconst 2, 820, 0, 2),
  (820, .iadd, 821, 0, 0),
  (821, .iaload, 822, 0, 0),
  (822, .invokevirtual 93, 825, 0, 0),
  (825, .aload_n 2, 826, 0, 0),
  (826, .aload_n 0, 827, 0, 0),
  (827, .iload_n 3, 828, 0, 0),
  (828, .iconst 1, 829, 0, 1),
  (829, .iadd, 830, 0, 0),
  (830, .iaload, 831, 0, 0),
  (831, .aload_n 0, 832, 0, 0),
  (832, .iload_n 3, 833, 0, 0),
  (833, .iconst 2, 834, 0, 2),
  (834, .iadd, 835, 0, 0),
  (835, .iaload, 836, 0, 0),
  (836, .invokevirtual 96, 839, 0, 0),
  (839, .if_icmp .eq 463, 842, 1302, 0),
  (842, .iconst 0, 843, 0, 0),
  (843, .ireturn, 844, 0, 0),
  (1302, .iinc 3 5, 1305, 0, 5),
  (1305, .goto (-1287), 1308, 18, 0)]
set_option maxRecDepth 100000 in
theorem okL_case17 : tf_okT cL_law tL_case17 := by unfold tf_okT; decide +kernel
theorem ftL_case17 : 1 ≤ 9 ∧ tf_okF RL fL ∧ tf_okT cL_law tL_case17 := ⟨by decide, okfL, okL_case17⟩

def tL_case18 : tf_T := [(844, .aload_n 1, 845, 0, 0),
  (845, .aload_n 0, 846, 0, 0),
  (846, .iload_n 3, 847, 0, 0),
  (847, .iconst 1, 848, 0, 1),
  (848, .iadd, 849, 0, 0),
  (849, .iaload, 850, 0, 0),
  (850, .aload_n 0, 851, 0, 0),
  (851, .iload_n 3, 852, 0, 0),
  (852, .iconst 2, 853, 0, 2),
  (853, .iadd, 854, 0, 0),
  (854, .iaload, 855, 0, 0),
  (855, .aload_n 0, 856, 0, 0),
  (856, .iload_n 3, 857, 0, 0),
  (857, .iconst 3, 858, 0, 3),
  (858, .iadd, 859, 0, 0),
  (859, .iaload, 860, 0, 0),
  (860, .invokevirtual 97, 863, 0, 0),
  (863, .aload_n 2, 864, 0, 0),
  (864, .aload_n 0, 865, 0, 0),
  (865, .iload_n 3, 866, 0, 0),
  (866, .iconst 1, 867, 0, 1),
  (867, .iadd, 868, 0, 0),
  (868, .iaload, 869, 0, 0),
  (869, .aload_n 0, 870, 0, 0),
  (870, .iload_n 3, 871, 0, 0),
  (871, .iconst 2, 872, 0, 2),
  (872, .iadd, 873, 0, 0),
  (873, .iaload, 874, 0, 0),
  (874, .aload_n 0, 875, 0, 0),
  (875, .iload_n 3, 876, 0, 0),
  (876, .iconst 3, 877, 0, 3),
  (877, .iadd, 878, 0, 0),
  (878, .iaload, 879, 0, 0),
  (879, .invokevirtual 100, 882, 0, 0),
  (882, .if_icmp .eq 420, 885, 1302, 0),
  (885, .iconst 0, 886, 0, 0),
  (886, .ireturn, 887, 0, 0),
  (1302, .iinc 3 5, 1305, 0, 5),
  (1305, .goto (-1287), 1308, 18, 0)]
set_option maxRecDepth 100000 in
theorem okL_case18 : tf_okT cL_law tL_case18 := by unfold tf_okT; decide +kernel
theorem ftL_case18 : 1 ≤ 9 ∧ tf_okF RL fL ∧ tf_okT cL_law tL_case18 := ⟨by decide, okfL, okL_case18⟩

def tL_case19 : tf_T := [(887, .aload_n 1, 888, 0, 0),
  (888, .aload_n 0, 889, 0, 0),
  (889, .iload_n 3, 890, 0, 0),
  (890, .iconst 1, 891, 0, 1),
  (891, .iadd, 892, 0, 0),
  (892, .iaload, 893, 0, 0),
  (893, .aload_n 0, 894, 0, 0),
  (894, .iload_n 3, 895, 0, 0),
  (895, .iconst 2, 896, 0, 2),
  (896, .iadd, 897, 0, 0),
  (897, .iaload, 898, 0, 0),
  (898, .aload_n 0, 899, 0, 0),
  (899, .iload_n 3, 900, 0, 0),
  (900, .iconst 3, 901, 0, 3),
  (901, .iadd, 902, 0, 0),
  (902, .iaload, 903, 0, 0),
  (903, .invokevirtual 101, 906, 0, 0),
  (906, .aload_n 2, 907, 0, 0),
  (907, .aload_n 0, 908, 0, 0),
  (908, .iload_n 3, 909, 0, 0),
  (909, .iconst 1, 910, 0, 1),
  (910, .iadd, 911, 0, 0),
  (911, .iaload, 912, 0, 0),
  (912, .aload_n 0, 913, 0, 0),
  (913, .iload_n 3, 914, 0, 0),
  (914, .iconst 2, 915, 0, 2),
  (915, .iadd, 916, 0, 0),
  (916, .iaload, 917, 0, 0),
  (917, .aload_n 0, 918, 0, 0),
  (918, .iload_n 3, 919, 0, 0),
  (919, .iconst 3, 920, 0, 3),
  (920, .iadd, 921, 0, 0),
  (921, .iaload, 922, 0, 0),
  (922, .invokevirtual 104, 925, 0, 0),
  (925, .if_icmp .eq 377, 928, 1302, 0),
  (928, .iconst 0, 929, 0, 0),
  (929, .ireturn, 930, 0, 0),
  (1302, .iinc 3 5, 1305, 0, 5),
  (1305, .goto (-1287), 1308, 18, 0)]
set_option maxRecDepth 100000 in
theorem okL_case19 : tf_okT cL_law tL_case19 := by unfold tf_okT; decide +kernel
theorem ftL_case19 : 1 ≤ 9 ∧ tf_okF RL fL ∧ tf_okT cL_law tL_case19 := ⟨by decide, okfL, okL_case19⟩

def tL_case20 : tf_T := [(930, .aload_n 1, 931, 0, 0),
  (931, .aload_n 0, 932, 0, 0),
  (932, .iload_n 3, 933, 0, 0),
  (933, .iconst 1, 934, 0, 1),
  (934, .iadd, 935, 0, 0),
  (935, .iaload, 936, 0, 0),
  (936, .invokevirtual 105, 939, 0, 0),
  (939, .aload_n 2, 940, 0, 0),
  (940, .aload_n 0, 941, 0, 0),
  (941, .iload_n 3, 942, 0, 0),
  (942, .iconst 1, 943, 0, 1),
  (943, .iadd, 944, 0, 0),
  (944, .iaload, 945, 0, 0),
  (945, .invokevirtual 108, 948, 0, 0),
  (948, .if_icmp .eq 354, 951, 1302, 0),
  (951, .iconst 0, 952, 0, 0),
  (952, .ireturn, 953, 0, 0),
  (1302, .iinc 3 5, 1305, 0, 5),
  (1305, .goto (-1287), 1308, 18, 0)]
set_option maxRecDepth 100000 in
theorem okL_case20 : tf_okT cL_law tL_case20 := by unfold tf_okT; decide +kernel
theorem ftL_case20 : 1 ≤ 9 ∧ tf_okF RL fL ∧ tf_okT cL_law tL_case20 := ⟨by decide, okfL, okL_case20⟩

def tL_case21 : tf_T := [(953, .aload_n 1, 954, 0, 0),
  (954, .invokevirtual 109, 957, 0, 0),
  (957, .aload_n 2, 958, 0, 0),
  (958, .invokevirtual 112, 961, 0, 0),
  (961, .if_icmp .eq 341, 964, 1302, 0),
  (964, .iconst 0, 965, 0, 0),
  (965, .ireturn, 966, 0, 0),
  (1302, .iinc 3 5, 1305, 0, 5),
  (1305, .goto (-1287), 1308, 18, 0)]
set_option maxRecDepth 100000 in
theorem okL_case21 : tf_okT cL_law tL_case21 := by unfold tf_okT; decide +kernel
theorem ftL_case21 : 1 ≤ 9 ∧ tf_okF RL fL ∧ tf_okT cL_law tL_case21 := ⟨by decide, okfL, okL_case21⟩

def tL_case22 : tf_T := [(966, .aload_n 1, 967, 0, 0),
  (967, .aload_n 0, 968, 0, 0),
  (968, .iload_n 3, 969, 0, 0),
  (969, .iconst 1, 970, 0, 1),
  (970, .iadd, 971, 0, 0),
  (971, .iaload, 972, 0, 0),
  (972, .aload_n 0, 973, 0, 0),
  (973, .iload_n 3, 974, 0, 0),
  (974, .iconst 2, 975, 0, 2),
  (975, .iadd, 976, 0, 0),
  (976, .iaload, 977, 0, 0),
  (977, .invokevirtual 113, 980, 0, 0),
  (980, .aload_n 2, 981, 0, 0),
  (981, .aload_n 0, 982, 0, 0),
  (982, .iload_n 3, 983, 0, 0),
  (983, .iconst 1, 984, 0, 1),
  (984, .iadd, 985, 0, 0),
  (985, .iaload, 986, 0, 0),
  (986, .aload_n 0, 987, 0, 0),
  (987, .iload_n 3, 988, 0, 0),
  (988, .iconst 2, 989, 0, 2),
  (989, .iadd, 990, 0, 0),
  (990, .iaload, 991, 0, 0),
  (991, .invokevirtual 116, 994, 0, 0),
  (994, .if_icmp .eq 308, 997, 1302, 0),
  (997, .iconst 0, 998, 0, 0),
  (998, .ireturn, 999, 0, 0),
  (1302, .iinc 3 5, 1305, 0, 5),
  (1305, .goto (-1287), 1308, 18, 0)]
set_option maxRecDepth 100000 in
theorem okL_case22 : tf_okT cL_law tL_case22 := by unfold tf_okT; decide +kernel
theorem ftL_case22 : 1 ≤ 9 ∧ tf_okF RL fL ∧ tf_okT cL_law tL_case22 := ⟨by decide, okfL, okL_case22⟩

def tL_case23 : tf_T := [(999, .aload_n 1, 1000, 0, 0),
  (1000, .aload_n 0, 1001, 0, 0),
  (1001, .iload_n 3, 1002, 0, 0),
  (1002, .iconst 1, 1003, 0, 1),
  (1003, .iadd, 1004, 0, 0),
  (1004, .iaload, 1005, 0, 0),
  (1005, .invokevirtual 117, 1008, 0, 0),
  (1008, .aload_n 2, 1009, 0, 0),
  (1009, .aload_n 0, 1010, 0, 0),
  (1010, .iload_n 3, 1011, 0, 0),
  (1011, .iconst 1, 1012, 0, 1),
  (1012, .iadd, 1013, 0, 0),
  (1013, .iaload, 1014, 0, 0),
  (1014, .invokevirtual 120, 1017, 0, 0),
  (1017, .if_icmp .eq 285, 1020, 1302, 0),
  (1020, .iconst 0, 1021, 0, 0),
  (1021, .ireturn, 1022, 0, 0),
  (1302, .iinc 3 5, 1305, 0, 5),
  (1305, .goto (-1287), 1308, 18, 0)]
set_option maxRecDepth 100000 in
theorem okL_case23 : tf_okT cL_law tL_case23 := by unfold tf_okT; decide +kernel
theorem ftL_case23 : 1 ≤ 9 ∧ tf_okF RL fL ∧ tf_okT cL_law tL_case23 := ⟨by decide, okfL, okL_case23⟩

def tL_case24 : tf_T := [(1022, .aload_n 1, 1023, 0, 0),
  (1023, .aload_n 0, 1024, 0, 0),
  (1024, .iload_n 3, 1025, 0, 0),
  (1025, .iconst 1, 1026, 0, 1),
  (1026, .iadd, 1027, 0, 0),
  (1027, .iaload, 1028, 0, 0),
  (1028, .aload_n 0, 1029, 0, 0),
  (1029, .iload_n 3, 1030, 0, 0),
  (1030, .iconst 2, 1031, 0, 2),
  (1031, .iadd, 1032, 0, 0),
  (1032, .iaload, 1033, 0, 0),
  (1033, .aload_n 0, 1034, 0, 0),
  (1034, .iload_n 3, 1035, 0, 0),
  (1035, .iconst 3, 1036, 0, 3),
  (1036, .iadd, 1037, 0, 0),
  (1037, .iaload, 1038, 0, 0),
  (1038, .ifCond .eq 7, 1041, 1045, 0),
  (1041, .iconst 1, 1042, 0, 1),
  (1042, .goto 4, 1045, 1046, 0),
  (1045, .iconst 0, 1046, 0, 0),
  (1046, .invokevirtual 121, 1049, 0, 0),
  (1049, .aload_n 2, 1050, 0, 0),
  (1050, .aload_n 0, 1051, 0, 0),
  (1051, .iload_n 3, 1052, 0, 0),
  (1052, .iconst 1, 1053, 0, 1),
  (1053, .iadd, 1054, 0, 0),
  (1054, .iaload, 1055, 0, 0),
  (1055, .aload_n 0, 1056, 0, 0),
  (1056, .iload_n 3, 1057, 0, 0),
  (1057, .iconst 2, 1058, 0, 2),
  (1058, .iadd, 1059, 0, 0),
  (1059, .iaload, 1060, 0, 0),
  (1060, .aload_n 0, 1061, 0, 0),
  (1061, .iload_n 3, 1062, 0, 0),
  (1062, .iconst 3, 1063, 0, 3),
  (1063, .iadd, 1064, 0, 0),
  (1064, .iaload, 1065, 0, 0),
  (1065, .ifCond .eq 7, 1068, 1072, 0),
  (1068, .iconst 1, 1069, 0, 1),
  (1069, .goto 4, 1072, 1073, 0),
  (1072, .iconst 0, 1073, 0, 0),
  (1073, .invokevirtual 124, 1076, 0, 0),
  (1076, .if_icmp .eq 226, 1079, 1302, 0),
  (1079, .iconst 0, 1080, 0, 0),
  (1080, .ireturn, 1081, 0, 0),
  (1302, .iinc 3 5, 1305, 0, 5),
  (1305, .goto (-1287), 1308, 18, 0)]
set_option maxRecDepth 100000 in
theorem okL_case24 : tf_okT cL_law tL_case24 := by unfold tf_okT; decide +kernel
theorem ftL_case24 : 1 ≤ 9 ∧ tf_okF RL fL ∧ tf_okT cL_law tL_case24 := ⟨by decide, okfL, okL_case24⟩

def tL_case25 : tf_T := [(1081, .aload_n 1, 1082, 0, 0),
  (1082, .aload_n 0, 1083, 0, 0),
  (1083, .iload_n 3, 1084, 0, 0),
  (1084, .iconst 1, 1085, 0, 1),
  (1085, .iadd, 1086, 0, 0),
  (1086, .iaload, 1087, 0, 0),
  (1087, .aload_n 0, 1088, 0, 0),
  (1088, .iload_n 3, 1089, 0, 0),
  (1089, .iconst 2, 1090, 0, 2),
  (1090, .iadd, 1091, 0, 0),
  (1091, .iaload, 1092, 0, 0),
  (1092, .invokevirtual 125, 1095, 0, 0),
  (1095, .aload_n 2, 1096, 0, 0),
  (1096, .aload_n 0, 1097, 0, 0),
  (1097, .iload_n 3, 1098, 0, 0),
  (1098, .iconst 1, 1099, 0, 1),
  (1099, .iadd, 1100, 0, 0),
  (1100, .iaload, 1101, 0, 0),
  (1101, .aload_n 0, 1102, 0, 0),
  (1102, .iload_n 3, 1103, 0, 0),
  (1103, .iconst 2, 1104, 0, 2),
  (1104, .iadd, 1105, 0, 0),
  (1105, .iaload, 1106, 0, 0),
  (1106, .invokevirtual 128, 1109, 0, 0),
  (1109, .if_icmp .eq 193, 1112, 1302, 0),
  (1112, .iconst 0, 1113, 0, 0),
  (1113, .ireturn, 1114, 0, 0),
  (1302, .iinc 3 5, 1305, 0, 5),
  (1305, .goto (-1287), 1308, 18, 0)]
set_option maxRecDepth 100000 in
theorem okL_case25 : tf_okT cL_law tL_case25 := by unfold tf_okT; decide +kernel
theorem ftL_case25 : 1 ≤ 9 ∧ tf_okF RL fL ∧ tf_okT cL_law tL_case25 := ⟨by decide, okfL, okL_case25⟩

def tL_case26 : tf_T := [(1114, .aload_n 1, 1115, 0, 0),
  (1115, .aload_n 0, 1116, 0, 0),
  (1116, .iload_n 3, 1117, 0, 0),
  (1117, .iconst 1, 1118, 0, 1),
  (1118, .iadd, 1119, 0, 0),
  (1119, .iaload, 1120, 0, 0),
  (1120, .aload_n 0, 1121, 0, 0),
  (1121, .iload_n 3, 1122, 0, 0),
  (1122, .iconst 2, 1123, 0, 2),
  (1123, .iadd, 1124, 0, 0),
  (1124, .iaload, 1125, 0, 0),
  (1125, .aload_n 0, 1126, 0, 0),
  (1126, .iload_n 3, 1127, 0, 0),
  (1127, .iconst 3, 1128, 0, 3),
  (1128, .iadd, 1129, 0, 0),
  (1129, .iaload, 1130, 0, 0),
  (1130, .invokevirtual 129, 1133, 0, 0),
  (1133, .aload_n 2, 1134, 0, 0),
  (1134, .aload_n 0, 1135, 0, 0),
  (1135, .iload_n 3, 1136, 0, 0),
  (1136, .iconst 1, 1137, 0, 1),
  (1137, .iadd, 1138, 0, 0),
  (1138, .iaload, 1139, 0, 0),
  (1139, .aload_n 0, 1140, 0, 0),
  (1140, .iload_n 3, 1141, 0, 0),
  (1141, .iconst 2, 1142, 0, 2),
  (1142, .iadd, 1143, 0, 0),
  (1143, .iaload, 1144, 0, 0),
  (1144, .aload_n 0, 1145, 0, 0),
  (1145, .iload_n 3, 1146, 0, 0),
  (1146, .iconst 3, 1147, 0, 3),
  (1147, .iadd, 1148, 0, 0),
  (1148, .iaload, 1149, 0, 0),
  (1149, .invokevirtual 132, 1152, 0, 0),
  (1152, .if_icmp .eq 150, 1155, 1302, 0),
  (1155, .iconst 0, 1156, 0, 0),
  (1156, .ireturn, 1157, 0, 0),
  (1302, .iinc 3 5, 1305, 0, 5),
  (1305, .goto (-1287), 1308, 18, 0)]
set_option maxRecDepth 100000 in
theorem okL_case26 : tf_okT cL_law tL_case26 := by unfold tf_okT; decide +kernel
theorem ftL_case26 : 1 ≤ 9 ∧ tf_okF RL fL ∧ tf_okT cL_law tL_case26 := ⟨by decide, okfL, okL_case26⟩

def tL_case27 : tf_T := [(1157, .aload_n 1, 1158, 0, 0),
  (1158, .aload_n 0, 1159, 0, 0),
  (1159, .iload_n 3, 1160, 0, 0),
  (1160, .iconst 1, 1161, 0, 1),
  (1161, .iadd, 1162, 0, 0),
  (1162, .iaload, 1163, 0, 0),
  (1163, .aload_n 0, 1164, 0, 0),
  (1164, .iload_n 3, 1165, 0, 0),
  (1165, .iconst 2, 1166, 0, 2),
  (1166, .iadd, 1167, 0, 0),
  (1167, .iaload, 1168, 0, 0),
  (1168, .aload_n 0, 1169, 0, 0),
  (1169, .iload_n 3, 1170, 0, 0),
  (1170, .iconst 3, 1171, 0, 3),
  (1171, .iadd, 1172, 0, 0),
  (1172, .iaload, 1173, 0, 0),
  (1173, .aload_n 0, 1174, 0, 0),
  (1174, .iload_n 3, 1175, 0, 0),
  (1175, .iconst 4, 1176, 0, 4),
  (1176, .iadd, 1177, 0, 0),
  (1177, .iaload, 1178, 0, 0),
  (1178, .invokevirtual 133, 1181, 0, 0),
  (1181, .aload_n 2, 1182, 0, 0),
  (1182, .aload_n 0, 1183, 0, 0),
  (1183, .iload_n 3, 1184, 0, 0),
  (1184, .iconst 1, 1185, 0, 1),
  (1185, .iadd, 1186, 0, 0),
  (1186, .iaload, 1187, 0, 0),
  (1187, .aload_n 0, 1188, 0, 0),
  (1188, .iload_n 3, 1189, 0, 0),
  (1189, .iconst 2, 1190, 0, 2),
  (1190, .iadd, 1191, 0, 0),
  (1191, .iaload, 1192, 0, 0),
  (1192, .aload_n 0, 1193, 0, 0),
  (1193, .iload_n 3, 1194, 0, 0),
  (1194, .iconst 3, 1195, 0, 3),
  (1195, .iadd, 1196, 0, 0),
  (1196, .iaload, 1197, 0, 0),
  (1197, .aload_n 0, 1198, 0, 0),
  (1198, .iload_n 3, 1199, 0, 0),
  (1199, .iconst 4, 1200, 0, 4),
  (1200, .iadd, 1201, 0, 0),
  (1201, .iaload, 1202, 0, 0),
  (1202, .invokevirtual 136, 1205, 0, 0),
  (1205, .if_icmp .eq 97, 1208, 1302, 0),
  (1208, .iconst 0, 1209, 0, 0),
  (1209, .ireturn, 1210, 0, 0),
  (1302, .iinc 3 5, 1305, 0, 5),
  (1305, .goto (-1287), 1308, 18, 0)]
set_option maxRecDepth 100000 in
theorem okL_case27 : tf_okT cL_law tL_case27 := by unfold tf_okT; decide +kernel
theorem ftL_case27 : 1 ≤ 9 ∧ tf_okF RL fL ∧ tf_okT cL_law tL_case27 := ⟨by decide, okfL, okL_case27⟩

def tL_case28 : tf_T := [(1210, .aload_n 1, 1211, 0, 0),
  (1211, .aload_n 0, 1212, 0, 0),
  (1212, .iload_n 3, 1213, 0, 0),
  (1213, .iconst 1, 1214, 0, 1),
  (1214, .iadd, 1215, 0, 0),
  (1215, .iaload, 1216, 0, 0),
  (1216, .aload_n 0, 1217, 0, 0),
  (1217, .iload_n 3, 1218, 0, 0),
  (1218, .iconst 2, 1219, 0, 2),
  (1219, .iadd, 1220, 0, 0),
  (1220, .iaload, 1221, 0, 0),
  (1221, .aload_n 0, 1222, 0, 0),
  (1222, .iload_n 3, 1223, 0, 0),
  (1223, .iconst 3, 1224, 0, 3),
  (1224, .iadd, 1225, 0, 0),
  (1225, .iaload, 1226, 0, 0),
  (1226, .invokevirtual 137, 1229, 0, 0),
  (1229, .aload_n 2, 1230, 0, 0),
  (1230, .aload_n 0, 1231, 0, 0),
  (1231, .iload_n 3, 1232, 0, 0),
  (1232, .iconst 1, 1233, 0, 1),
  (1233, .iadd, 1234, 0, 0),
  (1234, .iaload, 1235, 0, 0),
  (1235, .aload_n 0, 1236, 0, 0),
  (1236, .iload_n 3, 1237, 0, 0),
  (1237, .iconst 2, 1238, 0, 2),
  (1238, .iadd, 1239, 0, 0),
  (1239, .iaload, 1240, 0, 0),
  (1240, .aload_n 0, 1241, 0, 0),
  (1241, .iload_n 3, 1242, 0, 0),
  (1242, .iconst 3, 1243, 0, 3),
  (1243, .iadd, 1244, 0, 0),
  (1244, .iaload, 1245, 0, 0),
  (1245, .invokevirtual 140, 1248, 0, 0),
  (1248, .if_icmp .eq 54, 1251, 1302, 0),
  (1251, .iconst 0, 1252, 0, 0),
  (1252, .ireturn, 1253, 0, 0),
  (1302, .iinc 3 5, 1305, 0, 5),
  (1305, .goto (-1287), 1308, 18, 0)]
set_option maxRecDepth 100000 in
theorem okL_case28 : tf_okT cL_law tL_case28 := by unfold tf_okT; decide +kernel
theorem ftL_case28 : 1 ≤ 9 ∧ tf_okF RL fL ∧ tf_okT cL_law tL_case28 := ⟨by decide, okfL, okL_case28⟩

def tL_case29 : tf_T := [(1253, .aload_n 1, 1254, 0, 0),
  (1254, .invokevirtual 141, 1257, 0, 0),
  (1257, .aload_n 2, 1258, 0, 0),
  (1258, .invokevirtual 144, 1261, 0, 0),
  (1261, .if_icmp .eq 41, 1264, 1302, 0),
  (1264, .iconst 0, 1265, 0, 0),
  (1265, .ireturn, 1266, 0, 0),
  (1302, .iinc 3 5, 1305, 0, 5),
  (1305, .goto (-1287), 1308, 18, 0)]
set_option maxRecDepth 100000 in
theorem okL_case29 : tf_okT cL_law tL_case29 := by unfold tf_okT; decide +kernel
theorem ftL_case29 : 1 ≤ 9 ∧ tf_okF RL fL ∧ tf_okT cL_law tL_case29 := ⟨by decide, okfL, okL_case29⟩

def tL_case30 : tf_T := [(1266, .aload_n 1, 1267, 0, 0),
  (1267, .invokevirtual 145, 1270, 0, 0),
  (1270, .aload_n 2, 1271, 0, 0),
  (1271, .invokevirtual 148, 1274, 0, 0),
  (1274, .if_icmp .eq 28, 1277, 1302, 0),
  (1277, .iconst 0, 1278, 0, 0),
  (1278, .ireturn, 1279, 0, 0),
  (1302, .iinc 3 5, 1305, 0, 5),
  (1305, .goto (-1287), 1308, 18, 0)]
set_option maxRecDepth 100000 in
theorem okL_case30 : tf_okT cL_law tL_case30 := by unfold tf_okT; decide +kernel
theorem ftL_case30 : 1 ≤ 9 ∧ tf_okF RL fL ∧ tf_okT cL_law tL_case30 := ⟨by decide, okfL, okL_case30⟩

def tL_case31 : tf_T := [(1279, .aload_n 1, 1280, 0, 0),
  (1280, .aload_n 0, 1281, 0, 0),
  (1281, .iload_n 3, 1282, 0, 0),
  (1282, .iconst 1, 1283, 0, 1),
  (1283, .iadd, 1284, 0, 0),
  (1284, .iaload, 1285, 0, 0),
  (1285, .invokevirtual 149, 1288, 0, 0),
  (1288, .aload_n 2, 1289, 0, 0),
  (1289, .aload_n 0, 1290, 0, 0),
  (1290, .iload_n 3, 1291, 0, 0),
  (1291, .iconst 1, 1292, 0, 1),
  (1292, .iadd, 1293, 0, 0),
  (1293, .iaload, 1294, 0, 0),
  (1294, .invokevirtual 152, 1297, 0, 0),
  (1297, .if_icmp .eq 5, 1300, 1302, 0),
  (1300, .iconst 0, 1301, 0, 0),
  (1301, .ireturn, 1302, 0, 0),
  (1302, .iinc 3 5, 1305, 0, 5),
  (1305, .goto (-1287), 1308, 18, 0)]
set_option maxRecDepth 100000 in
theorem okL_case31 : tf_okT cL_law tL_case31 := by unfold tf_okT; decide +kernel
theorem ftL_case31 : 1 ≤ 9 ∧ tf_okF RL fL ∧ tf_okT cL_law tL_case31 := ⟨by decide, okfL, okL_case31⟩

