/-! LINKS: what each call, field and constant needs of the tables, by its place there -/
theorem gm {w : Cond} (i : Nat) (h : lw_tbl[i]? = some w ∧ goodWord w = true) : w ∈ gws := List.mem_filter.mpr ⟨List.mem_of_getElem? h.1, h.2⟩
theorem gml (ws : List Cond) (ps : List Nat) (hp : ws = ps.filterMap (fun i => lw_tbl[i]?)) (h : ws.all goodWord = true) : ∀ w ∈ ws, w ∈ gws := by
  intro w hw
  have h1 := List.all_eq_true.mp h w hw
  rw [hp] at hw
  obtain ⟨i, -, hi⟩ := List.mem_filterMap.mp hw
  exact List.mem_filter.mpr ⟨List.mem_of_getElem? hi, h1⟩
theorem in_X0 : ∀ w ∈ u_ws RX0 TX0 2, w ∈ gws := gml _ [67, 69] (by decide +kernel) (by decide +kernel)
theorem ft_X0 : FT RX0 TX0 2 tyX0 := ⟨tyX0_ok, nmX0⟩
theorem in_X1 : ∀ w ∈ u_ws RX1 TX1 8, w ∈ gws := gml _ [101, 103, 105, 107, 109, 111, 113, 115] (by decide +kernel) (by decide +kernel)
theorem ft_X1 : FT RX1 TX1 8 tyX1 := ⟨tyX1_ok, nmX1⟩
theorem in_X2 : ∀ w ∈ u_ws RX2 TX2 6, w ∈ gws := gml _ [126, 128, 130, 132, 134, 136] (by decide +kernel) (by decide +kernel)
theorem ft_X2 : FT RX2 TX2 6 tyX2 := ⟨tyX2_ok, nmX2⟩
theorem in_X3 : ∀ w ∈ u_ws RX3 TX3 4, w ∈ gws := gml _ [144, 146, 148, 150] (by decide +kernel) (by decide +kernel)
theorem ft_X3 : FT RX3 TX3 4 tyX3 := ⟨tyX3_ok, nmX3⟩
theorem in_X4 : ∀ w ∈ u_ws RX4 TX4 15, w ∈ gws := gml _ [801, 803, 805, 807, 809, 811, 813, 815, 817, 819, 821, 823, 825, 827, 829] (by decide +kernel) (by decide +kernel)
theorem ft_X4 : FT RX4 TX4 15 tyX4 := ⟨tyX4_ok, nmX4⟩
theorem k_L_68 : LkV RL 68 yX3_alike cX3_alike 5 (some .int) 2 := ⟨⟨gm 661 (by decide +kernel), gm 31 (by decide +kernel), gm 664 (by decide +kernel), by decide +kernel⟩, gm 662 (by decide +kernel), gm 663 (by decide +kernel)⟩
theorem k_L_78 : LkV RL 78 yX3_back cX3_back 3 (some .int) 1 := ⟨⟨gm 697 (by decide +kernel), gm 31 (by decide +kernel), gm 700 (by decide +kernel), by decide +kernel⟩, gm 698 (by decide +kernel), gm 699 (by decide +kernel)⟩
theorem k_L_35 : LkV RL 35 yX3_byteAt cX3_byteAt 4 (some .int) 2 := ⟨⟨gm 541 (by decide +kernel), gm 31 (by decide +kernel), gm 544 (by decide +kernel), by decide +kernel⟩, gm 542 (by decide +kernel), gm 543 (by decide +kernel)⟩
theorem k_L_71 : LkV RL 71 yX3_canMark cX3_canMark 2 (some .boolean) 1 := ⟨⟨gm 672 (by decide +kernel), gm 31 (by decide +kernel), gm 675 (by decide +kernel), by decide +kernel⟩, gm 673 (by decide +kernel), gm 674 (by decide +kernel)⟩
theorem k_L_90 : LkV RL 90 yX3_check cX3_check 3 (some .long) 1 := ⟨⟨gm 729 (by decide +kernel), gm 31 (by decide +kernel), gm 732 (by decide +kernel), by decide +kernel⟩, gm 730 (by decide +kernel), gm 731 (by decide +kernel)⟩
theorem k_L_94 : LkV RL 94 yX3_checkAnew cX3_checkAnew 5 (some .long) 1 := ⟨⟨gm 736 (by decide +kernel), gm 31 (by decide +kernel), gm 739 (by decide +kernel), by decide +kernel⟩, gm 737 (by decide +kernel), gm 738 (by decide +kernel)⟩
theorem k_L_97 : LkV RL 97 yX3_checkOf cX3_checkOf 6 (some .long) 1 := ⟨⟨gm 744 (by decide +kernel), gm 31 (by decide +kernel), gm 747 (by decide +kernel), by decide +kernel⟩, gm 745 (by decide +kernel), gm 746 (by decide +kernel)⟩
theorem k_L_29 : LkV RL 29 yX3_clear cX3_clear 4 (some .int) 1 := ⟨⟨gm 526 (by decide +kernel), gm 31 (by decide +kernel), gm 529 (by decide +kernel), by decide +kernel⟩, gm 527 (by decide +kernel), gm 528 (by decide +kernel)⟩
theorem k_L_23 : LkV RL 23 yX3_cut cX3_cut 3 (some .int) 1 := ⟨⟨gm 499 (by decide +kernel), gm 31 (by decide +kernel), gm 502 (by decide +kernel), by decide +kernel⟩, gm 500 (by decide +kernel), gm 501 (by decide +kernel)⟩
theorem k_L_38 : LkV RL 38 yX3_ends cX3_ends 2 (some .int) 1 := ⟨⟨gm 552 (by decide +kernel), gm 31 (by decide +kernel), gm 555 (by decide +kernel), by decide +kernel⟩, gm 553 (by decide +kernel), gm 554 (by decide +kernel)⟩
theorem k_L_45 : LkV RL 45 yX3_kind cX3_kind 2 (some .int) 1 := ⟨⟨gm 579 (by decide +kernel), gm 31 (by decide +kernel), gm 582 (by decide +kernel), by decide +kernel⟩, gm 580 (by decide +kernel), gm 581 (by decide +kernel)⟩
theorem k_L_81 : LkV RL 81 yX3_left cX3_left 3 (some .int) 1 := ⟨⟨gm 705 (by decide +kernel), gm 31 (by decide +kernel), gm 708 (by decide +kernel), by decide +kernel⟩, gm 706 (by decide +kernel), gm 707 (by decide +kernel)⟩
theorem k_L_32 : LkV RL 32 yX3_length cX3_length 2 (some .int) 1 := ⟨⟨gm 534 (by decide +kernel), gm 31 (by decide +kernel), gm 537 (by decide +kernel), by decide +kernel⟩, gm 535 (by decide +kernel), gm 536 (by decide +kernel)⟩
theorem k_L_84 : LkV RL 84 yX3_line cX3_line 3 (some .int) 1 := ⟨⟨gm 715 (by decide +kernel), gm 31 (by decide +kernel), gm 718 (by decide +kernel), by decide +kernel⟩, gm 716 (by decide +kernel), gm 717 (by decide +kernel)⟩
theorem k_L_75 : LkV RL 75 yX3_mark cX3_mark 3 (some .int) 1 := ⟨⟨gm 680 (by decide +kernel), gm 31 (by decide +kernel), gm 683 (by decide +kernel), by decide +kernel⟩, gm 681 (by decide +kernel), gm 682 (by decide +kernel)⟩
theorem k_L_106 : LkV RL 106 yX3_meanLine cX3_meanLine 5 (some .double) 0 := ⟨⟨gm 775 (by decide +kernel), gm 31 (by decide +kernel), gm 778 (by decide +kernel), by decide +kernel⟩, gm 776 (by decide +kernel), gm 777 (by decide +kernel)⟩
theorem k_L_41 : LkV RL 41 yX3_open cX3_open 8 (some .int) 4 := ⟨⟨gm 563 (by decide +kernel), gm 31 (by decide +kernel), gm 566 (by decide +kernel), by decide +kernel⟩, gm 564 (by decide +kernel), gm 565 (by decide +kernel)⟩
theorem k_L_56 : LkV RL 56 yX3_partAt cX3_partAt 2 (some .int) 1 := ⟨⟨gm 626 (by decide +kernel), gm 31 (by decide +kernel), gm 629 (by decide +kernel), by decide +kernel⟩, gm 627 (by decide +kernel), gm 628 (by decide +kernel)⟩
theorem k_L_65 : LkV RL 65 yX3_pour cX3_pour 6 (some .int) 2 := ⟨⟨gm 654 (by decide +kernel), gm 31 (by decide +kernel), gm 657 (by decide +kernel), by decide +kernel⟩, gm 655 (by decide +kernel), gm 656 (by decide +kernel)⟩
theorem k_L_48 : LkV RL 48 yX3_read cX3_read 2 (some .int) 1 := ⟨⟨gm 587 (by decide +kernel), gm 31 (by decide +kernel), gm 590 (by decide +kernel), by decide +kernel⟩, gm 588 (by decide +kernel), gm 589 (by decide +kernel)⟩
theorem k_L_62 : LkV RL 62 yX3_readLine cX3_readLine 6 (some .int) 2 := ⟨⟨gm 641 (by decide +kernel), gm 31 (by decide +kernel), gm 644 (by decide +kernel), by decide +kernel⟩, gm 642 (by decide +kernel), gm 643 (by decide +kernel)⟩
theorem k_L_53 : LkV RL 53 yX3_readPart cX3_readPart 4 (some .int) 2 := ⟨⟨gm 618 (by decide +kernel), gm 31 (by decide +kernel), gm 621 (by decide +kernel), by decide +kernel⟩, gm 619 (by decide +kernel), gm 620 (by decide +kernel)⟩
theorem k_L_87 : LkV RL 87 yX3_setLine cX3_setLine 5 (some .int) 2 := ⟨⟨gm 722 (by decide +kernel), gm 31 (by decide +kernel), gm 725 (by decide +kernel), by decide +kernel⟩, gm 723 (by decide +kernel), gm 724 (by decide +kernel)⟩
theorem k_L_100 : LkV RL 100 yX3_share cX3_share 3 (some .float) 1 := ⟨⟨gm 766 (by decide +kernel), gm 31 (by decide +kernel), gm 769 (by decide +kernel), by decide +kernel⟩, gm 767 (by decide +kernel), gm 768 (by decide +kernel)⟩
theorem k_L_59 : LkV RL 59 yX3_skip cX3_skip 4 (some .int) 2 := ⟨⟨gm 633 (by decide +kernel), gm 31 (by decide +kernel), gm 636 (by decide +kernel), by decide +kernel⟩, gm 634 (by decide +kernel), gm 635 (by decide +kernel)⟩
theorem k_L_7 : LkV RL 7 yX3_type cX3_type 4 (some .int) 2 := ⟨⟨gm 424 (by decide +kernel), gm 31 (by decide +kernel), gm 427 (by decide +kernel), by decide +kernel⟩, gm 425 (by decide +kernel), gm 426 (by decide +kernel)⟩
theorem k_L_19 : LkV RL 19 yX3_typeMany cX3_typeMany 6 (some .int) 3 := ⟨⟨gm 487 (by decide +kernel), gm 31 (by decide +kernel), gm 490 (by decide +kernel), by decide +kernel⟩, gm 488 (by decide +kernel), gm 489 (by decide +kernel)⟩
theorem F_X0_15 : FL RX0 15 RX0 TX0 2 2 1 := ⟨rfl, by decide, gm 66 (by decide +kernel), in_X0⟩
theorem F_X0_9 : FL RX0 9 RX0 TX0 2 2 0 := ⟨rfl, by decide, gm 65 (by decide +kernel), in_X0⟩
theorem k_X0_19 : LkV RX0 19 yX0_at cX0_at 2 (some .int) 1 := ⟨⟨gm 247 (by decide +kernel), gm 32 (by decide +kernel), gm 173 (by decide +kernel), by decide +kernel⟩, gm 171 (by decide +kernel), gm 172 (by decide +kernel)⟩
theorem k_X0_31 : LkS RX0 31 yX0_lined cX0_lined 2 (some .int) 2 := ⟨⟨gm 248 (by decide +kernel), gm 32 (by decide +kernel), gm 250 (by decide +kernel), by decide +kernel⟩, gm 249 (by decide +kernel)⟩
theorem k_X0_3 : Cond.methodLink RX0 3 objectInit ∈ gws ∧ Cond.instanceMethod objectInit ∈ gws ∧ Cond.code objectInit ⟨#[0xb1]⟩ 1 none ∈ gws := ⟨gm 64 (by decide +kernel), gm 54 (by decide +kernel), gm 55 (by decide +kernel)⟩
theorem k_X0_23 : LkV RX0 23 yX0_size cX0_size 1 (some .int) 0 := ⟨⟨gm 246 (by decide +kernel), gm 32 (by decide +kernel), gm 160 (by decide +kernel), by decide +kernel⟩, gm 158 (by decide +kernel), gm 159 (by decide +kernel)⟩
theorem k_X0_27 : LkV RX0 27 yX0_put cX0_put 2 none 1 := ⟨⟨gm 251 (by decide +kernel), gm 32 (by decide +kernel), gm 223 (by decide +kernel), by decide +kernel⟩, gm 221 (by decide +kernel), gm 222 (by decide +kernel)⟩
theorem F_X1_18 : FL RX1 18 RX1 TX1 8 3 1 := ⟨rfl, by decide, gm 88 (by decide +kernel), in_X1⟩
theorem k_X1_22 : LkV RX1 22 yX1_fillOut cX1_fillOut 3 none 2 := ⟨⟨gm 236 (by decide +kernel), gm 34 (by decide +kernel), gm 239 (by decide +kernel), by decide +kernel⟩, gm 238 (by decide +kernel), gm 5 (by decide +kernel)⟩
theorem F_X1_26 : FL RX1 26 RX1 TX1 8 3 3 := ⟨rfl, by decide, gm 92 (by decide +kernel), in_X1⟩
theorem F_X1_29 : FL RX1 29 RX1 TX1 8 3 4 := ⟨rfl, by decide, gm 93 (by decide +kernel), in_X1⟩
theorem K_X1_32 : Jvm.Cond.constantLong RX1 32 (4294967295) ∈ gws := gm 187 (by decide +kernel)
theorem F_X1_34 : FL RX1 34 RX1 TX1 8 3 5 := ⟨rfl, by decide, gm 96 (by decide +kernel), in_X1⟩
theorem k_X1_38 : LkN RX1 38 yX3_goesBackUnmarked "Layerwell" cX3_goesBackUnmarked 1 (some .boolean) 1 := ⟨List.mem_of_getElem? (i := 8) (by decide +kernel), gm 31 (by decide +kernel), gm 260 (by decide +kernel), by decide +kernel, gm 259 (by decide +kernel)⟩
theorem F_X1_42 : FL RX1 42 RX1 TX1 8 3 6 := ⟨rfl, by decide, gm 98 (by decide +kernel), in_X1⟩
theorem F_X1_45 : FL RX1 45 RX1 TX1 8 3 7 := ⟨rfl, by decide, gm 100 (by decide +kernel), in_X1⟩
theorem F_X1_12 : FL RX1 12 RX1 TX1 8 3 0 := ⟨rfl, by decide, gm 87 (by decide +kernel), in_X1⟩
theorem k_X1_48 : LkV RX1 48 yX0_makeEmpty cX0_makeEmpty 1 none 0 := ⟨⟨gm 240 (by decide +kernel), gm 32 (by decide +kernel), gm 208 (by decide +kernel), by decide +kernel⟩, gm 206 (by decide +kernel), gm 207 (by decide +kernel)⟩
theorem k_X1_51 : LkN RX1 51 yX3_isLined "Layerwell" cX3_isLined 1 (some .boolean) 1 := ⟨List.mem_of_getElem? (i := 7) (by decide +kernel), gm 31 (by decide +kernel), gm 211 (by decide +kernel), by decide +kernel, gm 210 (by decide +kernel)⟩
theorem k_X1_54 : LkV RX1 54 yX0_putLined cX0_putLined 6 none 2 := ⟨⟨gm 242 (by decide +kernel), gm 32 (by decide +kernel), gm 245 (by decide +kernel), by decide +kernel⟩, gm 243 (by decide +kernel), gm 244 (by decide +kernel)⟩
theorem k_X1_58 : LkV RX1 58 yX0_putAll cX0_putAll 3 none 1 := ⟨⟨gm 252 (by decide +kernel), gm 32 (by decide +kernel), gm 255 (by decide +kernel), by decide +kernel⟩, gm 253 (by decide +kernel), gm 254 (by decide +kernel)⟩
theorem F_X1_62 : FL RX1 62 RX1 TX1 8 3 2 := ⟨rfl, by decide, gm 91 (by decide +kernel), in_X1⟩
theorem k_X1_65 : LkV RX1 65 yX0_size cX0_size 1 (some .int) 0 := ⟨⟨gm 256 (by decide +kernel), gm 32 (by decide +kernel), gm 160 (by decide +kernel), by decide +kernel⟩, gm 158 (by decide +kernel), gm 159 (by decide +kernel)⟩
theorem k_X1_69 : LkV RX1 69 yX0_at cX0_at 2 (some .int) 1 := ⟨⟨gm 257 (by decide +kernel), gm 32 (by decide +kernel), gm 173 (by decide +kernel), by decide +kernel⟩, gm 171 (by decide +kernel), gm 172 (by decide +kernel)⟩
theorem k_X1_3 : Cond.methodLink RX1 3 objectInit ∈ gws ∧ Cond.instanceMethod objectInit ∈ gws ∧ Cond.code objectInit ⟨#[0xb1]⟩ 1 none ∈ gws := ⟨gm 84 (by decide +kernel), gm 54 (by decide +kernel), gm 55 (by decide +kernel)⟩
theorem k_X1_11 : LkJ RX1 11 yX0_init "Layerwell" cX0_init 1 0 := ⟨List.mem_of_getElem? (i := 3) (by decide +kernel), gm 32 (by decide +kernel), gm 63 (by decide +kernel), by decide +kernel, gm 62 (by decide +kernel)⟩
theorem k_X1_89 : LkV RX1 89 yX1_next cX1_next 2 (some .int) 0 := ⟨⟨gm 306 (by decide +kernel), gm 34 (by decide +kernel), gm 269 (by decide +kernel), by decide +kernel⟩, gm 267 (by decide +kernel), gm 268 (by decide +kernel)⟩
theorem k_X1_96 : LkV RX1 96 yX0_put cX0_put 2 none 1 := ⟨⟨gm 307 (by decide +kernel), gm 32 (by decide +kernel), gm 223 (by decide +kernel), by decide +kernel⟩, gm 221 (by decide +kernel), gm 222 (by decide +kernel)⟩
theorem k_X1_76 : LkN RX1 76 yX3_hasCheck "Layerwell" cX3_hasCheck 1 (some .boolean) 1 := ⟨List.mem_of_getElem? (i := 9) (by decide +kernel), gm 31 (by decide +kernel), gm 182 (by decide +kernel), by decide +kernel, gm 181 (by decide +kernel)⟩
theorem k_X1_79 : LkN RX1 79 yX3_withByte "Layerwell" cX3_withByte 7 (some .long) 2 := ⟨List.mem_of_getElem? (i := 10) (by decide +kernel), gm 31 (by decide +kernel), gm 273 (by decide +kernel), by decide +kernel, gm 272 (by decide +kernel)⟩
theorem k_X1_73 : LkV RX1 73 yX1_rest cX1_rest 1 (some .int) 0 := ⟨⟨gm 295 (by decide +kernel), gm 34 (by decide +kernel), gm 298 (by decide +kernel), by decide +kernel⟩, gm 296 (by decide +kernel), gm 297 (by decide +kernel)⟩
theorem k_X1_83 : LkS RX1 83 yJ9_min_7cf53 cJ9_min_7cf53 2 (some .int) 2 := ⟨⟨gm 299 (by decide +kernel), gm 46 (by decide +kernel), gm 301 (by decide +kernel), by decide +kernel⟩, gm 300 (by decide +kernel)⟩
theorem k_X1_100 : LkN RX1 100 yX3_hasLine "Layerwell" cX3_hasLine 1 (some .boolean) 1 := ⟨List.mem_of_getElem? (i := 15) (by decide +kernel), gm 31 (by decide +kernel), gm 179 (by decide +kernel), by decide +kernel, gm 178 (by decide +kernel)⟩
theorem k_X1_92 : LkV RX1 92 yX1_move cX1_move 4 none 2 := ⟨⟨gm 302 (by decide +kernel), gm 34 (by decide +kernel), gm 305 (by decide +kernel), by decide +kernel⟩, gm 303 (by decide +kernel), gm 304 (by decide +kernel)⟩
theorem F_X2_12 : FL RX2 12 RX2 TX2 6 4 0 := ⟨rfl, by decide, gm 120 (by decide +kernel), in_X2⟩
theorem F_X2_126 : FN RX2 126 RX1 TX1 8 3 1 "Layerwell" := ⟨rfl, by decide, List.mem_of_getElem? (i := 17) (by decide +kernel), in_X1⟩
theorem k_X2_136 : LkN RX2 136 yX3_hasLine "Layerwell" cX3_hasLine 1 (some .boolean) 1 := ⟨List.mem_of_getElem? (i := 13) (by decide +kernel), gm 31 (by decide +kernel), gm 179 (by decide +kernel), by decide +kernel, gm 178 (by decide +kernel)⟩
theorem F_X2_139 : FN RX2 139 RX1 TX1 8 3 4 "Layerwell" := ⟨rfl, by decide, List.mem_of_getElem? (i := 18) (by decide +kernel), in_X1⟩
theorem F_X2_99 : FL RX2 99 RX2 TX2 6 4 4 := ⟨rfl, by decide, gm 124 (by decide +kernel), in_X2⟩
theorem k_X2_129 : LkN RX2 129 yX3_hasCheck "Layerwell" cX3_hasCheck 1 (some .boolean) 1 := ⟨List.mem_of_getElem? (i := 11) (by decide +kernel), gm 31 (by decide +kernel), gm 182 (by decide +kernel), by decide +kernel, gm 181 (by decide +kernel)⟩
theorem k_X2_140 : LkV RX2 140 yX1_checkNow cX1_checkNow 1 (some .long) 0 := ⟨⟨gm 286 (by decide +kernel), gm 34 (by decide +kernel), gm 186 (by decide +kernel), by decide +kernel⟩, gm 184 (by decide +kernel), gm 185 (by decide +kernel)⟩
theorem K_X2_111 : Jvm.Cond.constantLong RX2 111 (4294967295) ∈ gws := gm 261 (by decide +kernel)
theorem F_X2_113 : FL RX2 113 RX2 TX2 6 4 5 := ⟨rfl, by decide, gm 125 (by decide +kernel), in_X2⟩
theorem k_X2_49 : LkV RX2 49 yX0_size cX0_size 1 (some .int) 0 := ⟨⟨gm 204 (by decide +kernel), gm 32 (by decide +kernel), gm 160 (by decide +kernel), by decide +kernel⟩, gm 158 (by decide +kernel), gm 159 (by decide +kernel)⟩
theorem F_X2_21 : FL RX2 21 RX2 TX2 6 4 1 := ⟨rfl, by decide, gm 121 (by decide +kernel), in_X2⟩
theorem k_X2_53 : LkV RX2 53 yX0_makeEmpty cX0_makeEmpty 1 none 0 := ⟨⟨gm 205 (by decide +kernel), gm 32 (by decide +kernel), gm 208 (by decide +kernel), by decide +kernel⟩, gm 206 (by decide +kernel), gm 207 (by decide +kernel)⟩
theorem k_X2_56 : LkN RX2 56 yX3_isLined "Layerwell" cX3_isLined 1 (some .boolean) 1 := ⟨List.mem_of_getElem? (i := 6) (by decide +kernel), gm 31 (by decide +kernel), gm 211 (by decide +kernel), by decide +kernel, gm 210 (by decide +kernel)⟩
theorem k_X2_59 : LkV RX2 59 yX2_putDue cX2_putDue 9 none 5 := ⟨⟨gm 212 (by decide +kernel), gm 33 (by decide +kernel), gm 215 (by decide +kernel), by decide +kernel⟩, gm 214 (by decide +kernel), gm 2 (by decide +kernel)⟩
theorem k_X2_28 : LkV RX2 28 yX2_fillDue cX2_fillDue 6 none 3 := ⟨⟨gm 200 (by decide +kernel), gm 33 (by decide +kernel), gm 203 (by decide +kernel), by decide +kernel⟩, gm 202 (by decide +kernel), gm 1 (by decide +kernel)⟩
theorem k_X2_32 : LkV RX2 32 yX2_holdsByBytes cX2_holdsByBytes 4 (some .boolean) 3 := ⟨⟨gm 224 (by decide +kernel), gm 33 (by decide +kernel), gm 227 (by decide +kernel), by decide +kernel⟩, gm 226 (by decide +kernel), gm 3 (by decide +kernel)⟩
theorem k_X2_36 : LkV RX2 36 yX2_holdsInParts cX2_holdsInParts 5 (some .boolean) 3 := ⟨⟨gm 287 (by decide +kernel), gm 33 (by decide +kernel), gm 290 (by decide +kernel), by decide +kernel⟩, gm 289 (by decide +kernel), gm 9 (by decide +kernel)⟩
theorem k_X2_39 : LkV RX2 39 yX2_holdsBehindSkip cX2_holdsBehindSkip 4 (some .boolean) 3 := ⟨⟨gm 312 (by decide +kernel), gm 33 (by decide +kernel), gm 315 (by decide +kernel), by decide +kernel⟩, gm 314 (by decide +kernel), gm 11 (by decide +kernel)⟩
theorem k_X2_42 : LkN RX2 42 yX3_canBeMarked "Layerwell" cX3_canBeMarked 1 (some .boolean) 1 := ⟨List.mem_of_getElem? (i := 14) (by decide +kernel), gm 31 (by decide +kernel), gm 326 (by decide +kernel), by decide +kernel, gm 325 (by decide +kernel)⟩
theorem k_X2_46 : LkV RX2 46 yX2_holdsBroughtBack cX2_holdsBroughtBack 6 (some .boolean) 3 := ⟨⟨gm 327 (by decide +kernel), gm 33 (by decide +kernel), gm 330 (by decide +kernel), by decide +kernel⟩, gm 329 (by decide +kernel), gm 13 (by decide +kernel)⟩
theorem k_X2_75 : LkV RX2 75 yX2_start cX2_start 4 none 3 := ⟨⟨gm 228 (by decide +kernel), gm 33 (by decide +kernel), gm 231 (by decide +kernel), by decide +kernel⟩, gm 230 (by decide +kernel), gm 4 (by decide +kernel)⟩
theorem k_X2_96 : LkV RX2 96 yX2_skipsThird cX2_skipsThird 4 (some .boolean) 0 := ⟨⟨gm 316 (by decide +kernel), gm 33 (by decide +kernel), gm 319 (by decide +kernel), by decide +kernel⟩, gm 318 (by decide +kernel), gm 12 (by decide +kernel)⟩
theorem k_X2_78 : LkV RX2 78 yX2_readsRest cX2_readsRest 3 (some .boolean) 0 := ⟨⟨gm 262 (by decide +kernel), gm 33 (by decide +kernel), gm 265 (by decide +kernel), by decide +kernel⟩, gm 264 (by decide +kernel), gm 6 (by decide +kernel)⟩
theorem F_X2_86 : FL RX2 86 RX2 TX2 6 4 3 := ⟨rfl, by decide, gm 123 (by decide +kernel), in_X2⟩
theorem k_X2_102 : LkV RX2 102 yX1_setMark cX1_setMark 1 none 0 := ⟨⟨gm 331 (by decide +kernel), gm 34 (by decide +kernel), gm 334 (by decide +kernel), by decide +kernel⟩, gm 332 (by decide +kernel), gm 333 (by decide +kernel)⟩
theorem k_X2_105 : LkV RX2 105 yX1_goBack cX1_goBack 1 none 0 := ⟨⟨gm 335 (by decide +kernel), gm 34 (by decide +kernel), gm 338 (by decide +kernel), by decide +kernel⟩, gm 336 (by decide +kernel), gm 337 (by decide +kernel)⟩
theorem F_X2_25 : FL RX2 25 RX2 TX2 6 4 2 := ⟨rfl, by decide, gm 122 (by decide +kernel), in_X2⟩
theorem k_X2_82 : LkV RX2 82 yX1_takePart cX1_takePart 5 (some .int) 2 := ⟨⟨gm 291 (by decide +kernel), gm 34 (by decide +kernel), gm 294 (by decide +kernel), by decide +kernel⟩, gm 292 (by decide +kernel), gm 293 (by decide +kernel)⟩
theorem k_X2_90 : LkV RX2 90 yX2_figuresAreDue cX2_figuresAreDue 1 (some .boolean) 0 := ⟨⟨gm 281 (by decide +kernel), gm 33 (by decide +kernel), gm 284 (by decide +kernel), by decide +kernel⟩, gm 283 (by decide +kernel), gm 8 (by decide +kernel)⟩
theorem k_X2_93 : LkV RX2 93 yX2_partIsDue cX2_partIsDue 2 (some .boolean) 0 := ⟨⟨gm 308 (by decide +kernel), gm 33 (by decide +kernel), gm 311 (by decide +kernel), by decide +kernel⟩, gm 310 (by decide +kernel), gm 10 (by decide +kernel)⟩
theorem k_X2_3 : Cond.methodLink RX2 3 objectInit ∈ gws ∧ Cond.instanceMethod objectInit ∈ gws ∧ Cond.code objectInit ⟨#[0xb1]⟩ 1 none ∈ gws := ⟨gm 78 (by decide +kernel), gm 54 (by decide +kernel), gm 55 (by decide +kernel)⟩
theorem k_X2_11 : LkJ RX2 11 yX1_init "Layerwell" cX1_init 1 0 := ⟨List.mem_of_getElem? (i := 2) (by decide +kernel), gm 34 (by decide +kernel), gm 83 (by decide +kernel), by decide +kernel, gm 82 (by decide +kernel)⟩
theorem k_X2_20 : LkJ RX2 20 yX0_init "Layerwell" cX0_init 1 0 := ⟨List.mem_of_getElem? (i := 4) (by decide +kernel), gm 32 (by decide +kernel), gm 63 (by decide +kernel), by decide +kernel, gm 62 (by decide +kernel)⟩
theorem k_X2_71 : LkV RX2 71 yX0_at cX0_at 2 (some .int) 1 := ⟨⟨gm 219 (by decide +kernel), gm 32 (by decide +kernel), gm 173 (by decide +kernel), by decide +kernel⟩, gm 171 (by decide +kernel), gm 172 (by decide +kernel)⟩
theorem k_X2_132 : LkN RX2 132 yX3_withByte "Layerwell" cX3_withByte 7 (some .long) 2 := ⟨List.mem_of_getElem? (i := 12) (by decide +kernel), gm 31 (by decide +kernel), gm 273 (by decide +kernel), by decide +kernel, gm 272 (by decide +kernel)⟩
theorem k_X2_120 : LkV RX2 120 yX2_nextDue cX2_nextDue 2 (some .int) 0 := ⟨⟨gm 275 (by decide +kernel), gm 33 (by decide +kernel), gm 278 (by decide +kernel), by decide +kernel⟩, gm 277 (by decide +kernel), gm 7 (by decide +kernel)⟩
theorem k_X2_63 : LkS RX2 63 yX2_joinedAt cX2_joinedAt 3 (some .int) 3 := ⟨⟨gm 216 (by decide +kernel), gm 33 (by decide +kernel), gm 218 (by decide +kernel), by decide +kernel⟩, gm 217 (by decide +kernel)⟩
theorem k_X2_67 : LkV RX2 67 yX0_put cX0_put 2 none 1 := ⟨⟨gm 220 (by decide +kernel), gm 32 (by decide +kernel), gm 223 (by decide +kernel), by decide +kernel⟩, gm 221 (by decide +kernel), gm 222 (by decide +kernel)⟩
theorem k_X2_123 : LkV RX2 123 yX1_next cX1_next 2 (some .int) 0 := ⟨⟨gm 266 (by decide +kernel), gm 34 (by decide +kernel), gm 269 (by decide +kernel), by decide +kernel⟩, gm 267 (by decide +kernel), gm 268 (by decide +kernel)⟩
theorem k_X2_117 : LkV RX2 117 yX1_pass cX1_pass 4 (some .int) 1 := ⟨⟨gm 320 (by decide +kernel), gm 34 (by decide +kernel), gm 323 (by decide +kernel), by decide +kernel⟩, gm 321 (by decide +kernel), gm 322 (by decide +kernel)⟩
theorem k_X2_108 : LkV RX2 108 yX1_begin cX1_begin 4 none 3 := ⟨⟨gm 232 (by decide +kernel), gm 34 (by decide +kernel), gm 235 (by decide +kernel), by decide +kernel⟩, gm 233 (by decide +kernel), gm 234 (by decide +kernel)⟩
theorem k_X3_80 : LkV RX3 80 yX3_streamAt cX3_streamAt 2 (some (.object "Layerwell$Stream")) 1 := ⟨⟨gm 567 (by decide +kernel), gm 31 (by decide +kernel), gm 570 (by decide +kernel), by decide +kernel⟩, gm 569 (by decide +kernel), gm 16 (by decide +kernel)⟩
theorem k_X3_102 : LkS RX3 102 yX3_requireOpen cX3_requireOpen 1 none 1 := ⟨⟨gm 595 (by decide +kernel), gm 31 (by decide +kernel), gm 597 (by decide +kernel), by decide +kernel⟩, gm 596 (by decide +kernel)⟩
theorem k_X3_128 : LkS RX3 128 yX3_countAlike cX3_countAlike 6 (some .int) 2 := ⟨⟨gm 666 (by decide +kernel), gm 31 (by decide +kernel), gm 668 (by decide +kernel), by decide +kernel⟩, gm 667 (by decide +kernel)⟩
theorem k_X3_96 : LkV RX3 96 yX3_openStreamAt cX3_openStreamAt 3 (some (.object "Layerwell$Stream")) 1 := ⟨⟨gm 591 (by decide +kernel), gm 31 (by decide +kernel), gm 594 (by decide +kernel), by decide +kernel⟩, gm 593 (by decide +kernel), gm 17 (by decide +kernel)⟩
theorem F_X3_145 : FN RX3 145 RX1 TX1 8 3 6 "Layerwell" := ⟨rfl, by decide, List.mem_of_getElem? (i := 21) (by decide +kernel), in_X1⟩
theorem k_X3_135 : LkS RX3 135 yX3_require cX3_require 1 none 1 := ⟨⟨gm 684 (by decide +kernel), gm 31 (by decide +kernel), gm 686 (by decide +kernel), by decide +kernel⟩, gm 685 (by decide +kernel)⟩
theorem k_X3_148 : LkV RX3 148 yX1_goBack cX1_goBack 1 none 0 := ⟨⟨gm 701 (by decide +kernel), gm 34 (by decide +kernel), gm 338 (by decide +kernel), by decide +kernel⟩, gm 336 (by decide +kernel), gm 337 (by decide +kernel)⟩
theorem k_X3_142 : LkV RX3 142 yX1_shownLine cX1_shownLine 1 (some .int) 0 := ⟨⟨gm 689 (by decide +kernel), gm 34 (by decide +kernel), gm 692 (by decide +kernel), by decide +kernel⟩, gm 690 (by decide +kernel), gm 691 (by decide +kernel)⟩
theorem k_X3_34 : LkV RX3 34 yX3_sourceAt cX3_sourceAt 2 (some (.object "Layerwell$Row")) 1 := ⟨⟨gm 428 (by decide +kernel), gm 31 (by decide +kernel), gm 431 (by decide +kernel), by decide +kernel⟩, gm 430 (by decide +kernel), gm 15 (by decide +kernel)⟩
theorem k_X3_69 : LkS RX3 69 yX3_requirePlace cX3_requirePlace 2 none 2 := ⟨⟨gm 545 (by decide +kernel), gm 31 (by decide +kernel), gm 547 (by decide +kernel), by decide +kernel⟩, gm 546 (by decide +kernel)⟩
theorem k_X3_73 : LkV RX3 73 yX0_at cX0_at 2 (some .int) 1 := ⟨⟨gm 170 (by decide +kernel), gm 32 (by decide +kernel), gm 173 (by decide +kernel), by decide +kernel⟩, gm 171 (by decide +kernel), gm 172 (by decide +kernel)⟩
theorem F_X3_92 : FN RX3 92 RX1 TX1 8 3 1 "Layerwell" := ⟨rfl, by decide, List.mem_of_getElem? (i := 16) (by decide +kernel), in_X1⟩
theorem k_X3_132 : LkS RX3 132 yX3_canBeMarked cX3_canBeMarked 1 (some .boolean) 1 := ⟨⟨gm 676 (by decide +kernel), gm 31 (by decide +kernel), gm 326 (by decide +kernel), by decide +kernel⟩, gm 325 (by decide +kernel)⟩
theorem k_X3_160 : LkS RX3 160 yX3_hasCheck cX3_hasCheck 1 (some .boolean) 1 := ⟨⟨gm 180 (by decide +kernel), gm 31 (by decide +kernel), gm 182 (by decide +kernel), by decide +kernel⟩, gm 181 (by decide +kernel)⟩
theorem k_X3_163 : LkV RX3 163 yX1_checkNow cX1_checkNow 1 (some .long) 0 := ⟨⟨gm 183 (by decide +kernel), gm 34 (by decide +kernel), gm 186 (by decide +kernel), by decide +kernel⟩, gm 184 (by decide +kernel), gm 185 (by decide +kernel)⟩
theorem K_X3_167 : Jvm.Cond.constantLong RX3 167 (4294967295) ∈ gws := gm 740 (by decide +kernel)
theorem F_X3_169 : FN RX3 169 RX1 TX1 8 3 5 "Layerwell" := ⟨rfl, by decide, List.mem_of_getElem? (i := 20) (by decide +kernel), in_X1⟩
theorem k_X3_42 : LkV RX3 42 yX0_size cX0_size 1 (some .int) 0 := ⟨⟨gm 157 (by decide +kernel), gm 32 (by decide +kernel), gm 160 (by decide +kernel), by decide +kernel⟩, gm 158 (by decide +kernel), gm 159 (by decide +kernel)⟩
theorem k_X3_173 : LkS RX3 173 yX3_withByte cX3_withByte 7 (some .long) 2 := ⟨⟨gm 748 (by decide +kernel), gm 31 (by decide +kernel), gm 273 (by decide +kernel), by decide +kernel⟩, gm 272 (by decide +kernel)⟩
theorem K_X3_182 : Jvm.Cond.constantLong RX3 182 (7) ∈ gws := gm 165 (by decide +kernel)
theorem F_X3_11 : FL RX3 11 RX3 TX3 4 5 0 := ⟨rfl, by decide, gm 140 (by decide +kernel), in_X3⟩
theorem k_X3_184 : LkS RX3 184 yX3_withRow cX3_withRow 6 (some .long) 2 := ⟨⟨gm 166 (by decide +kernel), gm 31 (by decide +kernel), gm 168 (by decide +kernel), by decide +kernel⟩, gm 167 (by decide +kernel)⟩
theorem F_X3_22 : FL RX3 22 RX3 TX3 4 5 2 := ⟨rfl, by decide, gm 142 (by decide +kernel), in_X3⟩
theorem F_X3_17 : FL RX3 17 RX3 TX3 4 5 1 := ⟨rfl, by decide, gm 141 (by decide +kernel), in_X3⟩
theorem k_X3_188 : LkS RX3 188 yX3_withStream cX3_withStream 5 (some .long) 2 := ⟨⟨gm 174 (by decide +kernel), gm 31 (by decide +kernel), gm 176 (by decide +kernel), by decide +kernel⟩, gm 175 (by decide +kernel)⟩
theorem k_X3_66 : LkV RX3 66 yX0_makeEmpty cX0_makeEmpty 1 none 0 := ⟨⟨gm 530 (by decide +kernel), gm 32 (by decide +kernel), gm 208 (by decide +kernel), by decide +kernel⟩, gm 206 (by decide +kernel), gm 207 (by decide +kernel)⟩
theorem k_X3_113 : LkV RX3 113 yX1_rest cX1_rest 1 (some .int) 0 := ⟨⟨gm 645 (by decide +kernel), gm 34 (by decide +kernel), gm 298 (by decide +kernel), by decide +kernel⟩, gm 296 (by decide +kernel), gm 297 (by decide +kernel)⟩
theorem k_X3_99 : LkV RX3 99 yX1_next cX1_next 2 (some .int) 0 := ⟨⟨gm 614 (by decide +kernel), gm 34 (by decide +kernel), gm 269 (by decide +kernel), by decide +kernel⟩, gm 267 (by decide +kernel), gm 268 (by decide +kernel)⟩
theorem k_X3_63 : LkV RX3 63 yX0_takeLast cX0_takeLast 2 (some .int) 0 := ⟨⟨gm 519 (by decide +kernel), gm 32 (by decide +kernel), gm 522 (by decide +kernel), by decide +kernel⟩, gm 520 (by decide +kernel), gm 521 (by decide +kernel)⟩
theorem k_X3_77 : LkV RX3 77 yX0_countEnds cX0_countEnds 3 (some .int) 0 := ⟨⟨gm 556 (by decide +kernel), gm 32 (by decide +kernel), gm 559 (by decide +kernel), by decide +kernel⟩, gm 557 (by decide +kernel), gm 558 (by decide +kernel)⟩
theorem k_X3_1 : Cond.methodLink RX3 1 objectInit ∈ gws ∧ Cond.instanceMethod objectInit ∈ gws ∧ Cond.code objectInit ⟨#[0xb1]⟩ 1 none ∈ gws := ⟨gm 53 (by decide +kernel), gm 54 (by decide +kernel), gm 55 (by decide +kernel)⟩
theorem k_X3_21 : LkJ RX3 21 yX0_init "Layerwell" cX0_init 1 0 := ⟨List.mem_of_getElem? (i := 0) (by decide +kernel), gm 32 (by decide +kernel), gm 63 (by decide +kernel), by decide +kernel, gm 62 (by decide +kernel)⟩
theorem k_X3_28 : LkJ RX3 28 yX2_init "Layerwell" cX2_init 1 0 := ⟨List.mem_of_getElem? (i := 1) (by decide +kernel), gm 33 (by decide +kernel), gm 77 (by decide +kernel), by decide +kernel, gm 76 (by decide +kernel)⟩
theorem F_X3_29 : FL RX3 29 RX3 TX3 4 5 3 := ⟨rfl, by decide, gm 143 (by decide +kernel), in_X3⟩
theorem k_X3_33 : LkJ RX3 33 yX1_init "Layerwell" cX1_init 1 0 := ⟨List.mem_of_getElem? (i := 5) (by decide +kernel), gm 34 (by decide +kernel), gm 83 (by decide +kernel), by decide +kernel, gm 82 (by decide +kernel)⟩
theorem k_X3_154 : LkS RX3 154 yX3_hasLine cX3_hasLine 1 (some .boolean) 1 := ⟨⟨gm 177 (by decide +kernel), gm 31 (by decide +kernel), gm 179 (by decide +kernel), by decide +kernel⟩, gm 178 (by decide +kernel)⟩
theorem k_X3_192 : LkV RX3 192 yX3_longestSource cX3_longestSource 3 (some .int) 0 := ⟨⟨gm 192 (by decide +kernel), gm 31 (by decide +kernel), gm 195 (by decide +kernel), by decide +kernel⟩, gm 194 (by decide +kernel), gm 0 (by decide +kernel)⟩
theorem k_X3_195 : LkV RX3 195 yX2_holds cX2_holds 4 (some .boolean) 3 := ⟨⟨gm 196 (by decide +kernel), gm 33 (by decide +kernel), gm 199 (by decide +kernel), by decide +kernel⟩, gm 197 (by decide +kernel), gm 198 (by decide +kernel)⟩
theorem k_X3_151 : LkS RX3 151 yX3_tellsRest cX3_tellsRest 1 (some .boolean) 1 := ⟨⟨gm 709 (by decide +kernel), gm 31 (by decide +kernel), gm 711 (by decide +kernel), by decide +kernel⟩, gm 710 (by decide +kernel)⟩
theorem F_X3_157 : FN RX3 157 RX1 TX1 8 3 4 "Layerwell" := ⟨rfl, by decide, List.mem_of_getElem? (i := 19) (by decide +kernel), in_X1⟩
theorem k_X3_139 : LkV RX3 139 yX1_setMark cX1_setMark 1 none 0 := ⟨⟨gm 688 (by decide +kernel), gm 34 (by decide +kernel), gm 334 (by decide +kernel), by decide +kernel⟩, gm 332 (by decide +kernel), gm 333 (by decide +kernel)⟩
theorem k_X3_52 : LkS RX3 52 yX3_requireBetween cX3_requireBetween 3 none 3 := ⟨⟨gm 491 (by decide +kernel), gm 31 (by decide +kernel), gm 493 (by decide +kernel), by decide +kernel⟩, gm 492 (by decide +kernel)⟩
theorem k_X3_84 : LkV RX3 84 yX1_begin cX1_begin 4 none 3 := ⟨⟨gm 572 (by decide +kernel), gm 34 (by decide +kernel), gm 235 (by decide +kernel), by decide +kernel⟩, gm 233 (by decide +kernel), gm 234 (by decide +kernel)⟩
theorem k_X3_88 : LkS RX3 88 yX3_hasTwoSources cX3_hasTwoSources 1 (some .boolean) 1 := ⟨⟨gm 573 (by decide +kernel), gm 31 (by decide +kernel), gm 575 (by decide +kernel), by decide +kernel⟩, gm 574 (by decide +kernel)⟩
theorem k_X3_46 : LkS RX3 46 yX3_requireRoom cX3_requireRoom 1 none 1 := ⟨⟨gm 464 (by decide +kernel), gm 31 (by decide +kernel), gm 466 (by decide +kernel), by decide +kernel⟩, gm 465 (by decide +kernel)⟩
theorem k_X3_119 : LkV RX3 119 yX1_move cX1_move 4 none 2 := ⟨⟨gm 650 (by decide +kernel), gm 34 (by decide +kernel), gm 305 (by decide +kernel), by decide +kernel⟩, gm 303 (by decide +kernel), gm 304 (by decide +kernel)⟩
theorem k_X3_116 : LkV RX3 116 yX1_restOfLine cX1_restOfLine 2 (some .int) 0 := ⟨⟨gm 646 (by decide +kernel), gm 34 (by decide +kernel), gm 649 (by decide +kernel), by decide +kernel⟩, gm 647 (by decide +kernel), gm 648 (by decide +kernel)⟩
theorem k_X3_106 : LkV RX3 106 yX1_takePart cX1_takePart 5 (some .int) 2 := ⟨⟨gm 622 (by decide +kernel), gm 34 (by decide +kernel), gm 294 (by decide +kernel), by decide +kernel⟩, gm 292 (by decide +kernel), gm 293 (by decide +kernel)⟩
theorem k_X3_110 : LkV RX3 110 yX1_pass cX1_pass 4 (some .int) 1 := ⟨⟨gm 637 (by decide +kernel), gm 34 (by decide +kernel), gm 323 (by decide +kernel), by decide +kernel⟩, gm 321 (by decide +kernel), gm 322 (by decide +kernel)⟩
theorem k_X3_38 : LkS RX3 38 yX3_requireByte cX3_requireByte 1 none 1 := ⟨⟨gm 445 (by decide +kernel), gm 31 (by decide +kernel), gm 447 (by decide +kernel), by decide +kernel⟩, gm 446 (by decide +kernel)⟩
theorem k_X3_49 : LkV RX3 49 yX0_put cX0_put 2 none 1 := ⟨⟨gm 483 (by decide +kernel), gm 32 (by decide +kernel), gm 223 (by decide +kernel), by decide +kernel⟩, gm 221 (by decide +kernel), gm 222 (by decide +kernel)⟩
theorem K_X3_224 : Jvm.Cond.constantLong RX3 224 (2197175160) ∈ gws := gm 274 (by decide +kernel)
theorem K_X3_226 : Jvm.Cond.constantLong RX3 226 (31) ∈ gws := gm 169 (by decide +kernel)
theorem F_X4_7 : FL RX4 7 RX4 TX4 15 6 1 := ⟨rfl, by decide, gm 787 (by decide +kernel), in_X4⟩
theorem F_X4_13 : FL RX4 13 RX4 TX4 15 6 2 := ⟨rfl, by decide, gm 788 (by decide +kernel), in_X4⟩
theorem k_X4_63 : LkV RX4 63 yX4_isNo cX4_isNo 2 (some .boolean) 1 := ⟨⟨gm 842 (by decide +kernel), gm 35 (by decide +kernel), gm 845 (by decide +kernel), by decide +kernel⟩, gm 844 (by decide +kernel), gm 18 (by decide +kernel)⟩
theorem k_X4_59 : LkV RX4 59 yX4_isThrown cX4_isThrown 3 (some .boolean) 2 := ⟨⟨gm 849 (by decide +kernel), gm 35 (by decide +kernel), gm 852 (by decide +kernel), by decide +kernel⟩, gm 851 (by decide +kernel), gm 19 (by decide +kernel)⟩
theorem k_X4_108 : LkV RX4 108 yX4_isShut cX4_isShut 3 (some .boolean) 2 := ⟨⟨gm 916 (by decide +kernel), gm 35 (by decide +kernel), gm 919 (by decide +kernel), by decide +kernel⟩, gm 918 (by decide +kernel), gm 25 (by decide +kernel)⟩
theorem k_X4_112 : LkV RX4 112 yX4_passes cX4_passes 3 (some .int) 1 := ⟨⟨gm 920 (by decide +kernel), gm 35 (by decide +kernel), gm 923 (by decide +kernel), by decide +kernel⟩, gm 922 (by decide +kernel), gm 26 (by decide +kernel)⟩
theorem F_X4_19 : FL RX4 19 RX4 TX4 15 6 5 := ⟨rfl, by decide, gm 791 (by decide +kernel), in_X4⟩
theorem k_X4_89 : LkS RX4 89 yX4_isOfTwo cX4_isOfTwo 1 (some .boolean) 1 := ⟨⟨gm 904 (by decide +kernel), gm 35 (by decide +kernel), gm 906 (by decide +kernel), by decide +kernel⟩, gm 905 (by decide +kernel)⟩
theorem k_X4_82 : LkS RX4 82 yX4_hasLine cX4_hasLine 1 (some .boolean) 1 := ⟨⟨gm 893 (by decide +kernel), gm 35 (by decide +kernel), gm 895 (by decide +kernel), by decide +kernel⟩, gm 894 (by decide +kernel)⟩
theorem F_X4_41 : FL RX4 41 RX4 TX4 15 6 12 := ⟨rfl, by decide, gm 798 (by decide +kernel), in_X4⟩
theorem F_X4_31 : FL RX4 31 RX4 TX4 15 6 9 := ⟨rfl, by decide, gm 795 (by decide +kernel), in_X4⟩
theorem F_X4_45 : FL RX4 45 RX4 TX4 15 6 13 := ⟨rfl, by decide, gm 799 (by decide +kernel), in_X4⟩
theorem F_X4_34 : FL RX4 34 RX4 TX4 15 6 10 := ⟨rfl, by decide, gm 796 (by decide +kernel), in_X4⟩
theorem F_X4_48 : FL RX4 48 RX4 TX4 15 6 14 := ⟨rfl, by decide, gm 800 (by decide +kernel), in_X4⟩
theorem k_X4_121 : LkV RX4 121 yX4_lineOf cX4_lineOf 2 (some .int) 1 := ⟨⟨gm 976 (by decide +kernel), gm 35 (by decide +kernel), gm 979 (by decide +kernel), by decide +kernel⟩, gm 978 (by decide +kernel), gm 29 (by decide +kernel)⟩
theorem k_X4_55 : LkS RX4 55 yX4_lies cX4_lies 3 (some .boolean) 3 := ⟨⟨gm 846 (by decide +kernel), gm 35 (by decide +kernel), gm 848 (by decide +kernel), by decide +kernel⟩, gm 847 (by decide +kernel)⟩
theorem k_X4_71 : LkV RX4 71 yX4_at cX4_at 3 (some .int) 2 := ⟨⟨gm 865 (by decide +kernel), gm 35 (by decide +kernel), gm 868 (by decide +kernel), by decide +kernel⟩, gm 867 (by decide +kernel), gm 21 (by decide +kernel)⟩
theorem k_X4_118 : LkS RX4 118 yX4_canGoBack cX4_canGoBack 1 (some .boolean) 1 := ⟨⟨gm 969 (by decide +kernel), gm 35 (by decide +kernel), gm 971 (by decide +kernel), by decide +kernel⟩, gm 970 (by decide +kernel)⟩
theorem k_X4_124 : LkS RX4 124 yX4_hasCheck cX4_hasCheck 1 (some .boolean) 1 := ⟨⟨gm 1000 (by decide +kernel), gm 35 (by decide +kernel), gm 1002 (by decide +kernel), by decide +kernel⟩, gm 1001 (by decide +kernel)⟩
theorem K_X4_92 : Jvm.Cond.constantLong RX4 92 (4294967295) ∈ gws := gm 907 (by decide +kernel)
theorem F_X4_37 : FL RX4 37 RX4 TX4 15 6 11 := ⟨rfl, by decide, gm 797 (by decide +kernel), in_X4⟩
theorem k_X4_104 : LkS RX4 104 yX4_mixed cX4_mixed 8 (some .long) 2 := ⟨⟨gm 932 (by decide +kernel), gm 35 (by decide +kernel), gm 934 (by decide +kernel), by decide +kernel⟩, gm 933 (by decide +kernel)⟩
theorem K_X4_127 : Jvm.Cond.constantLong RX4 127 (7) ∈ gws := gm 1023 (by decide +kernel)
theorem K_X4_129 : Jvm.Cond.constantLong RX4 129 (31) ∈ gws := gm 1024 (by decide +kernel)
theorem F_X4_115 : FL RX4 115 RX4 TX4 15 6 4 := ⟨rfl, by decide, gm 790 (by decide +kernel), in_X4⟩
theorem F_X4_16 : FL RX4 16 RX4 TX4 15 6 3 := ⟨rfl, by decide, gm 789 (by decide +kernel), in_X4⟩
theorem F_X4_22 : FL RX4 22 RX4 TX4 15 6 6 := ⟨rfl, by decide, gm 792 (by decide +kernel), in_X4⟩
theorem F_X4_25 : FL RX4 25 RX4 TX4 15 6 7 := ⟨rfl, by decide, gm 793 (by decide +kernel), in_X4⟩
theorem k_X4_75 : LkV RX4 75 yX4_endsOf cX4_endsOf 5 (some .int) 1 := ⟨⟨gm 885 (by decide +kernel), gm 35 (by decide +kernel), gm 888 (by decide +kernel), by decide +kernel⟩, gm 887 (by decide +kernel), gm 22 (by decide +kernel)⟩
theorem k_X4_79 : LkV RX4 79 yX4_comes cX4_comes 3 none 2 := ⟨⟨gm 900 (by decide +kernel), gm 35 (by decide +kernel), gm 903 (by decide +kernel), by decide +kernel⟩, gm 902 (by decide +kernel), gm 24 (by decide +kernel)⟩
theorem k_X4_1 : Cond.methodLink RX4 1 objectInit ∈ gws ∧ Cond.instanceMethod objectInit ∈ gws ∧ Cond.code objectInit ⟨#[0xb1]⟩ 1 none ∈ gws := ⟨gm 785 (by decide +kernel), gm 54 (by decide +kernel), gm 55 (by decide +kernel)⟩
theorem F_X4_28 : FL RX4 28 RX4 TX4 15 6 8 := ⟨rfl, by decide, gm 794 (by decide +kernel), in_X4⟩
theorem F_X4_51 : FL RX4 51 RX4 TX4 15 6 0 := ⟨rfl, by decide, gm 786 (by decide +kernel), in_X4⟩
theorem k_X4_98 : LkV RX4 98 yX4_leftOf cX4_leftOf 2 (some .int) 1 := ⟨⟨gm 924 (by decide +kernel), gm 35 (by decide +kernel), gm 927 (by decide +kernel), by decide +kernel⟩, gm 926 (by decide +kernel), gm 27 (by decide +kernel)⟩
theorem K_X4_94 : Jvm.Cond.constantLong RX4 94 (2) ∈ gws := gm 935 (by decide +kernel)
theorem K_X4_96 : Jvm.Cond.constantLong RX4 96 (2197175160) ∈ gws := gm 936 (by decide +kernel)
theorem k_X4_85 : LkV RX4 85 yX4_goesIn cX4_goesIn 8 (some .int) 4 := ⟨⟨gm 896 (by decide +kernel), gm 35 (by decide +kernel), gm 899 (by decide +kernel), by decide +kernel⟩, gm 898 (by decide +kernel), gm 23 (by decide +kernel)⟩
theorem k_X4_101 : LkV RX4 101 yX4_outAt cX4_outAt 3 (some .int) 2 := ⟨⟨gm 928 (by decide +kernel), gm 35 (by decide +kernel), gm 931 (by decide +kernel), by decide +kernel⟩, gm 930 (by decide +kernel), gm 28 (by decide +kernel)⟩
theorem k_X4_67 : LkV RX4 67 yX4_adds cX4_adds 3 none 2 := ⟨⟨gm 853 (by decide +kernel), gm 35 (by decide +kernel), gm 856 (by decide +kernel), by decide +kernel⟩, gm 855 (by decide +kernel), gm 20 (by decide +kernel)⟩
theorem th0_x : ∀ w ∈ (vx_atS RX3 179 "java/lang/ArithmeticException" ["java/lang/RuntimeException", "java/lang/Exception"]).filter goodWord, w ∈ lw_tbl := by decide +kernel
theorem th0 : ThW "java/lang/ArithmeticException" ["java/lang/RuntimeException", "java/lang/Exception"] 177 179 := ⟨by decide +kernel, gm 770 (by decide +kernel), gm 47 (by decide +kernel), fun w hw => List.mem_filter.mpr ⟨th0_x w hw, (List.mem_filter.mp hw).2⟩, by decide +kernel, by decide +kernel⟩
theorem th1_x : ∀ w ∈ (vx_atS RX3 127 "java/lang/IllegalArgumentException" ["java/lang/RuntimeException", "java/lang/Exception"]).filter goodWord, w ∈ lw_tbl := by decide +kernel
theorem th1 : ThW "java/lang/IllegalArgumentException" ["java/lang/RuntimeException", "java/lang/Exception"] 123 127 := ⟨by decide +kernel, gm 448 (by decide +kernel), gm 42 (by decide +kernel), fun w hw => List.mem_filter.mpr ⟨th1_x w hw, (List.mem_filter.mp hw).2⟩, by decide +kernel, by decide +kernel⟩
theorem th2_x : ∀ w ∈ (vx_atS RX3 221 "java/lang/IllegalStateException" ["java/lang/RuntimeException", "java/lang/Exception"]).filter goodWord, w ∈ lw_tbl := by decide +kernel
theorem th2 : ThW "java/lang/IllegalStateException" ["java/lang/RuntimeException", "java/lang/Exception"] 217 221 := ⟨by decide +kernel, gm 467 (by decide +kernel), gm 43 (by decide +kernel), fun w hw => List.mem_filter.mpr ⟨th2_x w hw, (List.mem_filter.mp hw).2⟩, by decide +kernel, by decide +kernel⟩
theorem th3_x : ∀ w ∈ (vx_atS RX3 203 "java/lang/IndexOutOfBoundsException" ["java/lang/RuntimeException", "java/lang/Exception"]).filter goodWord, w ∈ lw_tbl := by decide +kernel
theorem th3 : ThW "java/lang/IndexOutOfBoundsException" ["java/lang/RuntimeException", "java/lang/Exception"] 199 203 := ⟨by decide +kernel, gm 432 (by decide +kernel), gm 39 (by decide +kernel), fun w hw => List.mem_filter.mpr ⟨th3_x w hw, (List.mem_filter.mp hw).2⟩, by decide +kernel, by decide +kernel⟩
theorem th4_x : ∀ w ∈ (vx_atS RX3 210 "java/lang/UnsupportedOperationException" ["java/lang/RuntimeException", "java/lang/Exception"]).filter goodWord, w ∈ lw_tbl := by decide +kernel
theorem th4 : ThW "java/lang/UnsupportedOperationException" ["java/lang/RuntimeException", "java/lang/Exception"] 206 210 := ⟨by decide +kernel, gm 598 (by decide +kernel), gm 45 (by decide +kernel), fun w hw => List.mem_filter.mpr ⟨th4_x w hw, (List.mem_filter.mp hw).2⟩, by decide +kernel, by decide +kernel⟩
theorem C_L_8 : Cond.classLink RL 8 RX3 ∈ gws := gm 48 (by decide +kernel)
theorem C_X3_9 : Cond.classLink RX3 9 RX0 ∈ gws := gm 56 (by decide +kernel)
theorem C_X3_15 : Cond.classLink RX3 15 RX1 ∈ gws := gm 58 (by decide +kernel)
theorem C_X3_26 : Cond.classLink RX3 26 RX2 ∈ gws := gm 73 (by decide +kernel)
theorem C_X2_9 : Cond.classLink RX2 9 RX1 ∈ gws := gm 79 (by decide +kernel)
theorem C_X1_9 : Cond.classLink RX1 9 RX0 ∈ gws := gm 85 (by decide +kernel)
theorem C_X2_18 : Cond.classLink RX2 18 RX0 ∈ gws := gm 118 (by decide +kernel)
theorem C_L_13 : Cond.classLink RL 13 "java/lang/IndexOutOfBoundsException" ∈ gws := gm 342 (by decide +kernel)
theorem C_L_15 : Cond.classLink RL 15 "java/lang/IllegalArgumentException" ∈ gws := gm 422 (by decide +kernel)
theorem C_L_17 : Cond.classLink RL 17 "java/lang/IllegalStateException" ∈ gws := gm 423 (by decide +kernel)
theorem C_X3_199 : Cond.classLink RX3 199 "java/lang/IndexOutOfBoundsException" ∈ gws := gm 432 (by decide +kernel)
theorem C_X3_123 : Cond.classLink RX3 123 "java/lang/IllegalArgumentException" ∈ gws := gm 448 (by decide +kernel)
theorem C_X3_217 : Cond.classLink RX3 217 "java/lang/IllegalStateException" ∈ gws := gm 467 (by decide +kernel)
theorem C_L_27 : Cond.classLink RL 27 "java/util/NoSuchElementException" ∈ gws := gm 498 (by decide +kernel)
theorem C_X3_56 : Cond.classLink RX3 56 "java/util/NoSuchElementException" ∈ gws := gm 503 (by decide +kernel)
theorem C_L_51 : Cond.classLink RL 51 "java/lang/UnsupportedOperationException" ∈ gws := gm 586 (by decide +kernel)
theorem C_X3_206 : Cond.classLink RX3 206 "java/lang/UnsupportedOperationException" ∈ gws := gm 598 (by decide +kernel)
theorem C_L_104 : Cond.classLink RL 104 "java/lang/ArithmeticException" ∈ gws := gm 752 (by decide +kernel)
theorem C_X3_177 : Cond.classLink RX3 177 "java/lang/ArithmeticException" ∈ gws := gm 770 (by decide +kernel)
theorem C_L_111 : Cond.classLink RL 111 RX4 ∈ gws := gm 780 (by decide +kernel)
