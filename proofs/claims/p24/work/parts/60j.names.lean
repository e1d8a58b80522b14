theorem dL_references_591 : decode cL_references 591 = .ok (.iconst 1, 1) := by decide +kernel
theorem dL_references_592 : decode cL_references 592 = .ok (.bipush 12, 2) := by decide +kernel
theorem dL_references_594 : decode cL_references 594 = .ok (.invokevirtual 42, 3) := by decide +kernel
theorem dL_references_597 : decode cL_references 597 = .ok (.ifCond .ne 86, 3) := by decide +kernel
theorem dL_references_600 : decode cL_references 600 = .ok (.aload_n 3, 1) := by decide +kernel
theorem dL_references_601 : decode cL_references 601 = .ok (.iconst 0, 1) := by decide +kernel
theorem dL_references_602 : decode cL_references 602 = .ok (.invokevirtual 46, 3) := by decide +kernel
theorem dL_references_605 : decode cL_references 605 = .ok (.iconst 2, 1) := by decide +kernel
theorem dL_references_606 : decode cL_references 606 = .ok (.if_icmp .ne 77, 3) := by decide +kernel
theorem dL_references_609 : decode cL_references 609 = .ok (.aload_n 3, 1) := by decide +kernel
theorem dL_references_610 : decode cL_references 610 = .ok (.iconst 0, 1) := by decide +kernel
theorem dL_references_611 : decode cL_references 611 = .ok (.invokevirtual 46, 3) := by decide +kernel
theorem dL_references_614 : decode cL_references 614 = .ok (.iconst 1, 1) := by decide +kernel
theorem dL_references_615 : decode cL_references 615 = .ok (.if_icmp .ne 68, 3) := by decide +kernel
theorem dL_references_618 : decode cL_references 618 = .ok (.aload_n 3, 1) := by decide +kernel
theorem dL_references_619 : decode cL_references 619 = .ok (.iconst 0, 1) := by decide +kernel
theorem dL_references_620 : decode cL_references 620 = .ok (.iconst 0, 1) := by decide +kernel
theorem dL_references_621 : decode cL_references 621 = .ok (.invokevirtual 26, 3) := by decide +kernel
theorem dL_references_624 : decode cL_references 624 = .ok (.sipush 700, 3) := by decide +kernel
theorem dL_references_627 : decode cL_references 627 = .ok (.if_icmp .ne 56, 3) := by decide +kernel
theorem dL_references_630 : decode cL_references 630 = .ok (.aload_n 3, 1) := by decide +kernel
theorem dL_references_631 : decode cL_references 631 = .ok (.iconst 0, 1) := by decide +kernel
theorem dL_references_632 : decode cL_references 632 = .ok (.iconst 1, 1) := by decide +kernel
theorem dL_references_633 : decode cL_references 633 = .ok (.invokevirtual 26, 3) := by decide +kernel
theorem dL_references_636 : decode cL_references 636 = .ok (.sipush 10000, 3) := by decide +kernel
theorem dL_references_639 : decode cL_references 639 = .ok (.if_icmp .ne 44, 3) := by decide +kernel
theorem dL_references_642 : decode cL_references 642 = .ok (.aload_n 3, 1) := by decide +kernel
theorem dL_references_643 : decode cL_references 643 = .ok (.ldc 102, 2) := by decide +kernel
theorem dL_references_645 : decode cL_references 645 = .ok (.invokevirtual 53, 3) := by decide +kernel
theorem dL_references_648 : decode cL_references 648 = .ok (.ldc 105, 2) := by decide +kernel
theorem dL_references_650 : decode cL_references 650 = .ok (.if_icmp .ne 33, 3) := by decide +kernel
theorem dL_references_653 : decode cL_references 653 = .ok (.aload_n 3, 1) := by decide +kernel
theorem dL_references_654 : decode cL_references 654 = .ok (.ldc 106, 2) := by decide +kernel
theorem dL_references_656 : decode cL_references 656 = .ok (.invokevirtual 53, 3) := by decide +kernel
theorem dL_references_659 : decode cL_references 659 = .ok (.ldc 107, 2) := by decide +kernel
theorem dL_references_661 : decode cL_references 661 = .ok (.if_icmp .ne 22, 3) := by decide +kernel
theorem dL_references_664 : decode cL_references 664 = .ok (.aload_n 3, 1) := by decide +kernel
theorem dL_references_665 : decode cL_references 665 = .ok (.iconst 0, 1) := by decide +kernel
theorem dL_references_666 : decode cL_references 666 = .ok (.iconst 2, 1) := by decide +kernel
theorem dL_references_667 : decode cL_references 667 = .ok (.sipush 10000, 3) := by decide +kernel
theorem dL_references_670 : decode cL_references 670 = .ok (.sipush 700, 3) := by decide +kernel
theorem dL_references_673 : decode cL_references 673 = .ok (.sipush 10000, 3) := by decide +kernel
theorem dL_references_676 : decode cL_references 676 = .ok (.iconst 1, 1) := by decide +kernel
theorem dL_references_677 : decode cL_references 677 = .ok (.invokestatic 91, 3) := by decide +kernel
theorem dL_references_680 : decode cL_references 680 = .ok (.ifCond .ne 5, 3) := by decide +kernel
theorem dL_references_683 : decode cL_references 683 = .ok (.iconst 0, 1) := by decide +kernel
theorem dL_references_684 : decode cL_references 684 = .ok (.ireturn, 1) := by decide +kernel
theorem dL_references_685 : decode cL_references 685 = .ok (.aload_n 2, 1) := by decide +kernel
theorem dL_references_686 : decode cL_references 686 = .ok (.iconst 2, 1) := by decide +kernel
theorem dL_references_687 : decode cL_references 687 = .ok (.bipush 9, 2) := by decide +kernel
theorem dL_references_689 : decode cL_references 689 = .ok (.invokevirtual 42, 3) := by decide +kernel
theorem dL_references_692 : decode cL_references 692 = .ok (.iconst 1, 1) := by decide +kernel
theorem dL_references_693 : decode cL_references 693 = .ok (.if_icmp .ne 31, 3) := by decide +kernel
theorem dL_references_696 : decode cL_references 696 = .ok (.aload_n 2, 1) := by decide +kernel
theorem dL_references_697 : decode cL_references 697 = .ok (.iconst 0, 1) := by decide +kernel
theorem dL_references_698 : decode cL_references 698 = .ok (.iconst 1, 1) := by decide +kernel
theorem dL_references_699 : decode cL_references 699 = .ok (.invokevirtual 26, 3) := by decide +kernel
theorem dL_references_702 : decode cL_references 702 = .ok (.iconst 1, 1) := by decide +kernel
theorem dL_references_703 : decode cL_references 703 = .ok (.if_icmp .ne 21, 3) := by decide +kernel
theorem dL_references_706 : decode cL_references 706 = .ok (.aload_n 2, 1) := by decide +kernel
theorem dL_references_707 : decode cL_references 707 = .ok (.invokestatic 98, 3) := by decide +kernel
theorem dL_references_710 : decode cL_references 710 = .ok (.ifCond .eq 14, 3) := by decide +kernel
theorem dL_references_713 : decode cL_references 713 = .ok (.aload_n 0, 1) := by decide +kernel
theorem dL_references_714 : decode cL_references 714 = .ok (.invokestatic 98, 3) := by decide +kernel
theorem dL_references_717 : decode cL_references 717 = .ok (.ifCond .eq 7, 3) := by decide +kernel
theorem dL_references_720 : decode cL_references 720 = .ok (.iconst 1, 1) := by decide +kernel
theorem dL_references_721 : decode cL_references 721 = .ok (.goto 4, 3) := by decide +kernel
theorem dL_references_724 : decode cL_references 724 = .ok (.iconst 0, 1) := by decide +kernel
theorem dL_references_725 : decode cL_references 725 = .ok (.ireturn, 1) := by decide +kernel
set_option maxRecDepth 20000 in
theorem ggL_types_X5_type : GoodIn wsL_types wsX5_type := goodIn_r _ [6, 7, 8, 9, 10, 11, 12, 5, 13, 14, 15, 16, 17, 18, 19, 20, 21, 22, 23, 24, 25, 26, 27, 28, 29, 30, 31, 32, 33] (by decide +kernel) (by decide +kernel)
set_option maxRecDepth 20000 in
theorem gL_types_X5_type : GoodIn wsL_types (wsV RL 65 RX5 yX5_type wsX5_type) := goodIn_app (goodIn_of _ (by decide +kernel)) ggL_types_X5_type
theorem dL_types_0 : decode cL_types 0 = .ok (.iconst 1, 1) := by decide +kernel
theorem dL_types_1 : decode cL_types 1 = .ok (.istore_n 3, 1) := by decide +kernel
theorem dL_types_2 : decode cL_types 2 = .ok (.bipush 56, 2) := by decide +kernel
theorem dL_types_4 : decode cL_types 4 = .ok (.istore 4, 2) := by decide +kernel
theorem dL_types_6 : decode cL_types 6 = .ok (.iload 4, 2) := by decide +kernel
theorem dL_types_8 : decode cL_types 8 = .ok (.ifCond .lt 44, 3) := by decide +kernel
theorem dL_types_11 : decode cL_types 11 = .ok (.lload_n 1, 1) := by decide +kernel
theorem dL_types_12 : decode cL_types 12 = .ok (.iload 4, 2) := by decide +kernel
theorem dL_types_14 : decode cL_types 14 = .ok (.lshr, 1) := by decide +kernel
theorem dL_types_15 : decode cL_types 15 = .ok (.ldc2_w 108, 3) := by decide +kernel
theorem dL_types_18 : decode cL_types 18 = .ok (.land, 1) := by decide +kernel
theorem dL_types_19 : decode cL_types 19 = .ok (.l2i, 1) := by decide +kernel
theorem dL_types_20 : decode cL_types 20 = .ok (.istore 5, 2) := by decide +kernel
theorem dL_types_22 : decode cL_types 22 = .ok (.iload_n 3, 1) := by decide +kernel
theorem dL_types_23 : decode cL_types 23 = .ok (.ifCond .eq 21, 3) := by decide +kernel
theorem dL_types_26 : decode cL_types 26 = .ok (.iload 5, 2) := by decide +kernel
theorem dL_types_28 : decode cL_types 28 = .ok (.ifCond .eq 12, 3) := by decide +kernel
theorem dL_types_31 : decode cL_types 31 = .ok (.aload_n 0, 1) := by decide +kernel
theorem dL_types_32 : decode cL_types 32 = .ok (.iload 5, 2) := by decide +kernel
theorem dL_types_34 : decode cL_types 34 = .ok (.invokevirtual 65, 3) := by decide +kernel
theorem dL_types_37 : decode cL_types 37 = .ok (.ifCond .le 7, 3) := by decide +kernel
theorem dL_types_40 : decode cL_types 40 = .ok (.iconst 1, 1) := by decide +kernel
theorem dL_types_41 : decode cL_types 41 = .ok (.goto 4, 3) := by decide +kernel
theorem dL_types_44 : decode cL_types 44 = .ok (.iconst 0, 1) := by decide +kernel
theorem dL_types_45 : decode cL_types 45 = .ok (.istore_n 3, 1) := by decide +kernel
theorem dL_types_46 : decode cL_types 46 = .ok (.iinc 4 (-8), 3) := by decide +kernel
theorem dL_types_49 : decode cL_types 49 = .ok (.goto (-43), 3) := by decide +kernel
theorem dL_types_52 : decode cL_types 52 = .ok (.iload_n 3, 1) := by decide +kernel
theorem dL_types_53 : decode cL_types 53 = .ok (.ireturn, 1) := by decide +kernel
set_option maxRecDepth 20000 in
theorem ggL_isFault_X5_init : GoodIn wsL_isFault wsX5_init := goodIn_r _ [8, 9, 10, 11, 12, 13, 14, 15, 16, 17, 18, 19, 20, 21, 22, 23, 24, 25, 26, 27, 28, 29, 30, 31, 32, 33, 34, 35, 36, 37, 38, 39, 40, 41, 42, 43, 44, 45, 46, 47, 48, 49, 50, 51, 52, 53, 54, 55, 56, 57, 58, 59, 60, 61, 62, 63, 64, 65, 66, 67, 68, 69, 70, 71, 72, 295, 296, 297, 298, 299, 300, 301, 302, 303, 291, 292, 293, 294, 304, 305, 306, 307, 308, 309, 310, 311, 312, 313, 314, 315, 316, 317, 318, 319, 320, 321, 322, 323, 324, 325] (by decide +kernel) (by decide +kernel)
set_option maxRecDepth 20000 in
theorem gL_isFault_X5_init : GoodIn wsL_isFault (wsX5_init) := ggL_isFault_X5_init
set_option maxRecDepth 20000 in
theorem ggL_isFault_L_types : GoodIn wsL_isFault wsL_types := goodIn_r _ [76, 77, 78, 79, 80, 3, 81, 82, 23, 83, 84, 85, 86, 87, 88, 89, 90, 22, 91, 92, 71, 291, 292, 293, 294, 307, 308, 309, 310, 311, 312, 313, 314, 315] (by rfl) (by decide +kernel)
set_option maxRecDepth 20000 in
theorem gL_isFault_L_types : GoodIn wsL_isFault (va_wsS RL 110 yL_types wsL_types) := goodIn_app (goodIn_of _ (by decide +kernel)) ggL_isFault_L_types
set_option maxRecDepth 20000 in
theorem ggL_isFault_X5_fault : GoodIn wsL_isFault wsX5_fault := goodIn_r _ [96, 82, 23, 15, 97, 98, 99, 100, 101, 85, 86, 3, 87, 102, 103, 104, 22, 105, 106, 107, 92, 108, 109, 110, 111, 112, 113, 114, 115, 116, 72, 117, 118, 119, 120, 121, 122, 123, 124, 71, 125, 126, 127, 128, 129, 130, 131, 132, 133, 134, 135, 136, 291, 292, 293, 294, 295, 296, 297, 298, 299, 300, 301, 302, 303, 316, 317, 318, 319, 320, 321, 322, 323, 307, 308, 309, 310, 311, 312, 313, 314, 315] (by decide +kernel) (by decide +kernel)
set_option maxRecDepth 20000 in
theorem gL_isFault_X5_fault : GoodIn wsL_isFault (wsV RL 68 RX5 yX5_fault wsX5_fault) := goodIn_app (goodIn_of _ (by decide +kernel)) ggL_isFault_X5_fault
set_option maxRecDepth 20000 in
theorem ggL_isFault_X5_play : GoodIn wsL_isFault wsX5_play := goodIn_r _ [140, 15, 97, 98, 23, 99, 141, 142, 84, 19, 143, 144, 102, 103, 104, 22, 105, 106, 107, 92, 108, 109, 110, 111, 112, 113, 114, 115, 116, 72, 117, 118, 119, 120, 121, 122, 123, 124, 71, 125, 126, 127, 128, 129, 130, 131, 132, 133, 134, 135, 136, 145, 146, 147, 14, 148, 149, 150, 151, 152, 153, 43, 154, 155, 156, 18, 157, 158, 159, 66, 160, 161, 162, 163, 32, 36, 164, 165, 166, 167, 168, 45, 46, 47, 48, 169, 170, 171, 26, 172, 52, 53, 173, 54, 55, 174, 175, 176, 177, 178, 179, 180, 35, 181, 59, 182, 60, 183, 184, 185, 186, 3, 187, 188, 189, 190, 191, 192, 193, 194, 195, 196, 197, 198, 199, 200, 201, 202, 203, 204, 205, 206, 207, 208, 209, 210, 211, 212, 213, 214, 215, 216, 217, 218, 219, 220, 221, 222, 223, 224, 225, 226, 227, 228, 229, 230, 231, 232, 233, 234, 235, 236, 237, 238, 239, 240, 241, 242, 243, 244, 245, 246, 247, 248, 249, 250, 251, 252, 253, 254, 255, 256, 257, 258, 259, 260, 261, 262, 263, 291, 292, 293, 294, 295, 296, 297, 298, 299, 300, 301, 302, 303, 316, 317, 318, 319, 320, 321, 322, 323, 307, 308, 309, 310, 311, 312, 313, 314, 315, 304, 305, 306, 324, 325] (by decide +kernel) (by decide +kernel)
set_option maxRecDepth 20000 in
theorem gL_isFault_X5_play : GoodIn wsL_isFault (wsV RL 114 RX5 yX5_play wsX5_play) := goodIn_app (goodIn_of _ (by decide +kernel)) ggL_isFault_X5_play
set_option maxRecDepth 20000 in
theorem ggL_isFault_X5_count : GoodIn wsL_isFault wsX5_count := goodIn_r _ [267, 15, 97, 98, 268, 269, 270, 19, 271, 23, 83, 272, 273, 274, 14, 275, 149, 32, 202, 276, 208, 209, 210, 277, 278, 279, 280, 281, 282, 35, 283, 236, 237, 238, 239, 60, 284, 195, 196, 197, 168, 285, 151, 152, 153, 43, 286, 287, 288, 3, 289, 82, 290, 85, 86, 87, 291, 292, 293, 294, 295, 296, 297, 298, 299, 300, 301, 302, 303, 316, 317, 318, 319, 320, 321, 322, 323, 304, 305, 306, 307, 308, 309, 310, 311, 312, 313, 314, 315, 324, 325] (by decide +kernel) (by decide +kernel)
set_option maxRecDepth 20000 in
theorem gL_isFault_X5_count : GoodIn wsL_isFault (wsV RL 13 RX5 yX5_count wsX5_count) := goodIn_app (goodIn_of _ (by decide +kernel)) ggL_isFault_X5_count
theorem dL_isFault_0 : decode cL_isFault 0 = .ok (.new 14, 3) := by decide +kernel
theorem dL_isFault_3 : decode cL_isFault 3 = .ok (.dup, 1) := by decide +kernel
theorem dL_isFault_4 : decode cL_isFault 4 = .ok (.invokespecial 79, 3) := by decide +kernel
theorem dL_isFault_7 : decode cL_isFault 7 = .ok (.astore 7, 2) := by decide +kernel
theorem dL_isFault_9 : decode cL_isFault 9 = .ok (.aload 7, 2) := by decide +kernel
theorem dL_isFault_11 : decode cL_isFault 11 = .ok (.lload_n 0, 1) := by decide +kernel
theorem dL_isFault_12 : decode cL_isFault 12 = .ok (.invokestatic 110, 3) := by decide +kernel
theorem dL_isFault_15 : decode cL_isFault 15 = .ok (.ifCond .eq 23, 3) := by decide +kernel
theorem dL_isFault_18 : decode cL_isFault 18 = .ok (.aload 7, 2) := by decide +kernel
theorem dL_isFault_20 : decode cL_isFault 20 = .ok (.lload_n 2, 1) := by decide +kernel
theorem dL_isFault_21 : decode cL_isFault 21 = .ok (.invokestatic 110, 3) := by decide +kernel
theorem dL_isFault_24 : decode cL_isFault 24 = .ok (.ifCond .eq 14, 3) := by decide +kernel
theorem dL_isFault_27 : decode cL_isFault 27 = .ok (.aload 7, 2) := by decide +kernel
theorem dL_isFault_29 : decode cL_isFault 29 = .ok (.iconst 0, 1) := by decide +kernel
theorem dL_isFault_30 : decode cL_isFault 30 = .ok (.invokevirtual 68, 3) := by decide +kernel
theorem dL_isFault_33 : decode cL_isFault 33 = .ok (.iload 4, 2) := by decide +kernel
theorem dL_isFault_35 : decode cL_isFault 35 = .ok (.if_icmp .eq 5, 3) := by decide +kernel
theorem dL_isFault_38 : decode cL_isFault 38 = .ok (.iconst 0, 1) := by decide +kernel
theorem dL_isFault_39 : decode cL_isFault 39 = .ok (.ireturn, 1) := by decide +kernel
theorem dL_isFault_40 : decode cL_isFault 40 = .ok (.iload 4, 2) := by decide +kernel
theorem dL_isFault_42 : decode cL_isFault 42 = .ok (.ldc 52, 2) := by decide +kernel
theorem dL_isFault_44 : decode cL_isFault 44 = .ok (.if_icmp .ne 41, 3) := by decide +kernel
theorem dL_isFault_47 : decode cL_isFault 47 = .ok (.aload 7, 2) := by decide +kernel
theorem dL_isFault_49 : decode cL_isFault 49 = .ok (.invokevirtual 114, 3) := by decide +kernel
theorem dL_isFault_52 : decode cL_isFault 52 = .ok (.ifCond .lt 29, 3) := by decide +kernel
theorem dL_isFault_55 : decode cL_isFault 55 = .ok (.aload 7, 2) := by decide +kernel
theorem dL_isFault_57 : decode cL_isFault 57 = .ok (.iconst 1, 1) := by decide +kernel
theorem dL_isFault_58 : decode cL_isFault 58 = .ok (.invokevirtual 68, 3) := by decide +kernel
theorem dL_isFault_61 : decode cL_isFault 61 = .ok (.ldc 52, 2) := by decide +kernel
theorem dL_isFault_63 : decode cL_isFault 63 = .ok (.if_icmp .ne 18, 3) := by decide +kernel
theorem dL_isFault_66 : decode cL_isFault 66 = .ok (.aload 7, 2) := by decide +kernel
theorem dL_isFault_68 : decode cL_isFault 68 = .ok (.iconst 2, 1) := by decide +kernel
theorem dL_isFault_69 : decode cL_isFault 69 = .ok (.invokevirtual 68, 3) := by decide +kernel
theorem dL_isFault_72 : decode cL_isFault 72 = .ok (.ldc 52, 2) := by decide +kernel
theorem dL_isFault_74 : decode cL_isFault 74 = .ok (.if_icmp .ne 7, 3) := by decide +kernel
theorem dL_isFault_77 : decode cL_isFault 77 = .ok (.iconst 1, 1) := by decide +kernel
theorem dL_isFault_78 : decode cL_isFault 78 = .ok (.goto 54, 3) := by decide +kernel
theorem dL_isFault_81 : decode cL_isFault 81 = .ok (.iconst 0, 1) := by decide +kernel
theorem dL_isFault_82 : decode cL_isFault 82 = .ok (.goto 50, 3) := by decide +kernel
theorem dL_isFault_85 : decode cL_isFault 85 = .ok (.aload 7, 2) := by decide +kernel
theorem dL_isFault_87 : decode cL_isFault 87 = .ok (.iconst 1, 1) := by decide +kernel
theorem dL_isFault_88 : decode cL_isFault 88 = .ok (.invokevirtual 68, 3) := by decide +kernel
theorem dL_isFault_91 : decode cL_isFault 91 = .ok (.iload 5, 2) := by decide +kernel
theorem dL_isFault_93 : decode cL_isFault 93 = .ok (.if_icmp .ne 38, 3) := by decide +kernel
theorem dL_isFault_96 : decode cL_isFault 96 = .ok (.aload 7, 2) := by decide +kernel
theorem dL_isFault_98 : decode cL_isFault 98 = .ok (.iconst 2, 1) := by decide +kernel
theorem dL_isFault_99 : decode cL_isFault 99 = .ok (.invokevirtual 68, 3) := by decide +kernel
theorem dL_isFault_102 : decode cL_isFault 102 = .ok (.iload 6, 2) := by decide +kernel
theorem dL_isFault_104 : decode cL_isFault 104 = .ok (.if_icmp .ne 27, 3) := by decide +kernel
theorem dL_isFault_107 : decode cL_isFault 107 = .ok (.aload 7, 2) := by decide +kernel
theorem dL_isFault_109 : decode cL_isFault 109 = .ok (.invokevirtual 114, 3) := by decide +kernel
theorem dL_isFault_112 : decode cL_isFault 112 = .ok (.ldc 84, 2) := by decide +kernel
theorem dL_isFault_114 : decode cL_isFault 114 = .ok (.if_icmp .ne 17, 3) := by decide +kernel
theorem dL_isFault_117 : decode cL_isFault 117 = .ok (.aload 7, 2) := by decide +kernel
theorem dL_isFault_119 : decode cL_isFault 119 = .ok (.bipush 7, 2) := by decide +kernel
theorem dL_isFault_121 : decode cL_isFault 121 = .ok (.invokevirtual 13, 3) := by decide +kernel
theorem dL_isFault_124 : decode cL_isFault 124 = .ok (.ifCond .ne 7, 3) := by decide +kernel
theorem dL_isFault_127 : decode cL_isFault 127 = .ok (.iconst 1, 1) := by decide +kernel
theorem dL_isFault_128 : decode cL_isFault 128 = .ok (.goto 4, 3) := by decide +kernel
theorem dL_isFault_131 : decode cL_isFault 131 = .ok (.iconst 0, 1) := by decide +kernel
theorem dL_isFault_132 : decode cL_isFault 132 = .ok (.ireturn, 1) := by decide +kernel
