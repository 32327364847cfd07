set_option maxRecDepth 20000 in
theorem tw_535 : Cond.methodLink RX5 38 yX5_find ∈ WT := wt_3 54 rfl rfl
set_option maxRecDepth 20000 in
theorem tw_536 : Cond.instanceMethod yX5_find ∈ WT := wt_3 55 rfl rfl
set_option maxRecDepth 20000 in
theorem tw_537 : Cond.selects RX5 yX5_find yX5_find ∈ WT := wt_3 56 rfl rfl
set_option maxRecDepth 20000 in
theorem tw_538 : Cond.code yX5_find cX5_find 4 (Option.some Jvm.ClassFile.FieldType.int) ∈ WT := wt_3 57 rfl rfl
set_option maxRecDepth 20000 in
theorem tw_539 : Cond.methodLink RX5 30 yX5_saysSame ∈ WT := wt_3 58 rfl rfl
set_option maxRecDepth 20000 in
theorem tw_541 : Cond.instanceMethod yX5_saysSame ∈ WT := wt_3 60 rfl rfl
set_option maxRecDepth 20000 in
theorem tw_542 : Cond.code yX5_saysSame cX5_saysSame 5 (Option.some Jvm.ClassFile.FieldType.boolean) ∈ WT := wt_3 61 rfl rfl
set_option maxRecDepth 20000 in
theorem tw_543 : Cond.methodLink RX5 34 yX1_at ∈ WT := wt_3 62 rfl rfl
set_option maxRecDepth 20000 in
theorem tw_544 : Cond.methodLink RL 120 yX10_filed ∈ WT := wt_3 63 rfl rfl
set_option maxRecDepth 20000 in
theorem tw_545 : Cond.instanceMethod yX10_filed ∈ WT := wt_3 64 rfl rfl
set_option maxRecDepth 20000 in
theorem tw_546 : Cond.selects RX10 yX10_filed yX10_filed ∈ WT := wt_3 65 rfl rfl
set_option maxRecDepth 20000 in
theorem tw_547 : Cond.code yX10_filed cX10_filed 4 (Option.some Jvm.ClassFile.FieldType.int) ∈ WT := wt_3 66 rfl rfl
set_option maxRecDepth 20000 in
theorem tw_548 : Cond.methodLink RX10 243 yX5_find ∈ WT := wt_3 67 rfl rfl
set_option maxRecDepth 20000 in
theorem tw_549 : Cond.methodLink RX10 246 yX5_timesAt ∈ WT := wt_3 68 rfl rfl
set_option maxRecDepth 20000 in
theorem tw_550 : Cond.instanceMethod yX5_timesAt ∈ WT := wt_3 69 rfl rfl
set_option maxRecDepth 20000 in
theorem tw_551 : Cond.selects RX5 yX5_timesAt yX5_timesAt ∈ WT := wt_3 70 rfl rfl
set_option maxRecDepth 20000 in
theorem tw_552 : Cond.code yX5_timesAt cX5_timesAt 2 (Option.some Jvm.ClassFile.FieldType.int) ∈ WT := wt_3 71 rfl rfl
set_option maxRecDepth 20000 in
theorem tw_553 : Cond.methodLink RL 124 yX10_alike ∈ WT := wt_3 72 rfl rfl
set_option maxRecDepth 20000 in
theorem tw_554 : Cond.instanceMethod yX10_alike ∈ WT := wt_3 73 rfl rfl
set_option maxRecDepth 20000 in
theorem tw_555 : Cond.selects RX10 yX10_alike yX10_alike ∈ WT := wt_3 74 rfl rfl
set_option maxRecDepth 20000 in
theorem tw_556 : Cond.code yX10_alike cX10_alike 3 (Option.some Jvm.ClassFile.FieldType.int) ∈ WT := wt_3 75 rfl rfl
set_option maxRecDepth 20000 in
theorem tw_557 : Cond.methodLink RX10 249 yX1_isSaidAgain ∈ WT := wt_3 76 rfl rfl
set_option maxRecDepth 20000 in
theorem tw_558 : Cond.instanceMethod yX1_isSaidAgain ∈ WT := wt_3 77 rfl rfl
set_option maxRecDepth 20000 in
theorem tw_559 : Cond.selects RX1 yX1_isSaidAgain yX1_isSaidAgain ∈ WT := wt_3 78 rfl rfl
set_option maxRecDepth 20000 in
theorem tw_560 : Cond.code yX1_isSaidAgain cX1_isSaidAgain 3 (Option.some Jvm.ClassFile.FieldType.boolean) ∈ WT := wt_3 79 rfl rfl
set_option maxRecDepth 20000 in
theorem tw_561 : Cond.methodLink RX1 29 yX1_saysSame ∈ WT := wt_3 80 rfl rfl
set_option maxRecDepth 20000 in
theorem tw_563 : Cond.instanceMethod yX1_saysSame ∈ WT := wt_3 82 rfl rfl
set_option maxRecDepth 20000 in
theorem tw_564 : Cond.code yX1_saysSame cX1_saysSame 4 (Option.some Jvm.ClassFile.FieldType.boolean) ∈ WT := wt_3 83 rfl rfl
set_option maxRecDepth 20000 in
theorem tw_565 : Cond.methodLink RL 128 yX10_forget ∈ WT := wt_3 84 rfl rfl
set_option maxRecDepth 20000 in
theorem tw_566 : Cond.instanceMethod yX10_forget ∈ WT := wt_3 85 rfl rfl
set_option maxRecDepth 20000 in
theorem tw_567 : Cond.selects RX10 yX10_forget yX10_forget ∈ WT := wt_3 86 rfl rfl
set_option maxRecDepth 20000 in
theorem tw_568 : Cond.code yX10_forget cX10_forget 2 (Option.some Jvm.ClassFile.FieldType.int) ∈ WT := wt_3 87 rfl rfl
set_option maxRecDepth 20000 in
theorem tw_569 : Cond.methodLink RX10 252 yX5_size ∈ WT := wt_3 88 rfl rfl
set_option maxRecDepth 20000 in
theorem tw_570 : Cond.instanceMethod yX5_size ∈ WT := wt_3 89 rfl rfl
set_option maxRecDepth 20000 in
theorem tw_571 : Cond.selects RX5 yX5_size yX5_size ∈ WT := wt_3 90 rfl rfl
set_option maxRecDepth 20000 in
theorem tw_572 : Cond.code yX5_size cX5_size 1 (Option.some Jvm.ClassFile.FieldType.int) ∈ WT := wt_3 91 rfl rfl
set_option maxRecDepth 20000 in
theorem tw_573 : Cond.methodLink RX10 253 yX5_empty ∈ WT := wt_3 92 rfl rfl
set_option maxRecDepth 20000 in
theorem tw_574 : Cond.instanceMethod yX5_empty ∈ WT := wt_3 93 rfl rfl
set_option maxRecDepth 20000 in
theorem tw_575 : Cond.selects RX5 yX5_empty yX5_empty ∈ WT := wt_3 94 rfl rfl
set_option maxRecDepth 20000 in
theorem tw_576 : Cond.code yX5_empty cX5_empty 1 (Option.none : Option Jvm.ClassFile.FieldType) ∈ WT := wt_3 95 rfl rfl
set_option maxRecDepth 20000 in
theorem tw_577 : Cond.methodLink RL 132 yX10_feed ∈ WT := wt_3 96 rfl rfl
set_option maxRecDepth 20000 in
theorem tw_578 : Cond.instanceMethod yX10_feed ∈ WT := wt_3 97 rfl rfl
set_option maxRecDepth 20000 in
theorem tw_579 : Cond.selects RX10 yX10_feed yX10_feed ∈ WT := wt_3 98 rfl rfl
set_option maxRecDepth 20000 in
theorem tw_580 : Cond.code yX10_feed cX10_feed 4 (Option.some Jvm.ClassFile.FieldType.int) ∈ WT := wt_3 99 rfl rfl
set_option maxRecDepth 20000 in
theorem tw_581 : Cond.methodLink RX10 256 yX7_size ∈ WT := wt_3 100 rfl rfl
set_option maxRecDepth 20000 in
theorem tw_582 : Cond.instanceMethod yX7_size ∈ WT := wt_3 101 rfl rfl
set_option maxRecDepth 20000 in
theorem tw_583 : Cond.selects RX7 yX7_size yX7_size ∈ WT := wt_3 102 rfl rfl
set_option maxRecDepth 20000 in
theorem tw_584 : Cond.code yX7_size cX7_size 1 (Option.some Jvm.ClassFile.FieldType.int) ∈ WT := wt_3 103 rfl rfl
set_option maxRecDepth 20000 in
theorem tw_585 : Cond.methodLink RX10 257 yX7_append ∈ WT := wt_3 104 rfl rfl
set_option maxRecDepth 20000 in
theorem tw_586 : Cond.instanceMethod yX7_append ∈ WT := wt_3 105 rfl rfl
set_option maxRecDepth 20000 in
theorem tw_587 : Cond.selects RX7 yX7_append yX7_append ∈ WT := wt_3 106 rfl rfl
set_option maxRecDepth 20000 in
theorem tw_588 : Cond.code yX7_append cX7_append 2 (Option.none : Option Jvm.ClassFile.FieldType) ∈ WT := wt_3 107 rfl rfl
set_option maxRecDepth 20000 in
theorem tw_589 : Cond.methodLink RL 136 yX10_wipe ∈ WT := wt_3 108 rfl rfl
set_option maxRecDepth 20000 in
theorem tw_590 : Cond.instanceMethod yX10_wipe ∈ WT := wt_3 109 rfl rfl
set_option maxRecDepth 20000 in
theorem tw_591 : Cond.selects RX10 yX10_wipe yX10_wipe ∈ WT := wt_3 110 rfl rfl
set_option maxRecDepth 20000 in
theorem tw_592 : Cond.code yX10_wipe cX10_wipe 2 (Option.some Jvm.ClassFile.FieldType.int) ∈ WT := wt_3 111 rfl rfl
set_option maxRecDepth 20000 in
theorem tw_593 : Cond.methodLink RX10 259 yX7_empty ∈ WT := wt_3 112 rfl rfl
set_option maxRecDepth 20000 in
theorem tw_594 : Cond.instanceMethod yX7_empty ∈ WT := wt_3 113 rfl rfl
set_option maxRecDepth 20000 in
theorem tw_595 : Cond.selects RX7 yX7_empty yX7_empty ∈ WT := wt_3 114 rfl rfl
set_option maxRecDepth 20000 in
theorem tw_596 : Cond.code yX7_empty cX7_empty 1 (Option.none : Option Jvm.ClassFile.FieldType) ∈ WT := wt_3 115 rfl rfl
set_option maxRecDepth 20000 in
theorem tw_597 : Cond.methodLink RL 140 yX10_text ∈ WT := wt_3 116 rfl rfl
set_option maxRecDepth 20000 in
theorem tw_598 : Cond.instanceMethod yX10_text ∈ WT := wt_3 117 rfl rfl
set_option maxRecDepth 20000 in
theorem tw_599 : Cond.selects RX10 yX10_text yX10_text ∈ WT := wt_3 118 rfl rfl
set_option maxRecDepth 20000 in
theorem tw_600 : Cond.code yX10_text cX10_text 3 (Option.some Jvm.ClassFile.FieldType.int) ∈ WT := wt_3 119 rfl rfl
set_option maxRecDepth 20000 in
theorem tw_601 : Cond.methodLink RX10 260 yX4_readText ∈ WT := wt_3 120 rfl rfl
set_option maxRecDepth 20000 in
theorem tw_602 : Cond.instanceMethod yX4_readText ∈ WT := wt_3 121 rfl rfl
set_option maxRecDepth 20000 in
theorem tw_603 : Cond.selects RX4 yX4_readText yX4_readText ∈ WT := wt_3 122 rfl rfl
set_option maxRecDepth 20000 in
theorem tw_604 : Cond.code yX4_readText cX4_readText 3 (Option.some Jvm.ClassFile.FieldType.boolean) ∈ WT := wt_3 123 rfl rfl
set_option maxRecDepth 20000 in
theorem tw_605 : Cond.methodLink RX4 33 yX8_cut ∈ WT := wt_3 124 rfl rfl
set_option maxRecDepth 20000 in
theorem tw_606 : Cond.instanceMethod yX8_cut ∈ WT := wt_3 125 rfl rfl
set_option maxRecDepth 20000 in
theorem tw_607 : Cond.selects RX8 yX8_cut yX8_cut ∈ WT := wt_3 126 rfl rfl
set_option maxRecDepth 20000 in
theorem tw_608 : Cond.code yX8_cut cX8_cut 5 (Option.none : Option Jvm.ClassFile.FieldType) ∈ WT := wt_3 127 rfl rfl
set_option maxRecDepth 20000 in
theorem tw_609 : Cond.methodLink RX8 25 yX7_behindBlanks ∈ WT := wt_3 128 rfl rfl
set_option maxRecDepth 20000 in
theorem tw_610 : Cond.instanceMethod yX7_behindBlanks ∈ WT := wt_3 129 rfl rfl
set_option maxRecDepth 20000 in
theorem tw_611 : Cond.selects RX7 yX7_behindBlanks yX7_behindBlanks ∈ WT := wt_3 130 rfl rfl
set_option maxRecDepth 20000 in
theorem tw_612 : Cond.code yX7_behindBlanks cX7_behindBlanks 3 (Option.some Jvm.ClassFile.FieldType.int) ∈ WT := wt_3 131 rfl rfl
set_option maxRecDepth 20000 in
theorem tw_613 : Cond.methodLink RX7 19 yX7_at ∈ WT := wt_3 132 rfl rfl
set_option maxRecDepth 20000 in
theorem tw_614 : Cond.instanceMethod yX7_at ∈ WT := wt_3 133 rfl rfl
set_option maxRecDepth 20000 in
theorem tw_615 : Cond.selects RX7 yX7_at yX7_at ∈ WT := wt_3 134 rfl rfl
set_option maxRecDepth 20000 in
theorem tw_616 : Cond.code yX7_at cX7_at 2 (Option.some Jvm.ClassFile.FieldType.int) ∈ WT := wt_3 135 rfl rfl
set_option maxRecDepth 20000 in
theorem tw_617 : Cond.methodLink RX8 31 yX7_size ∈ WT := wt_3 136 rfl rfl
set_option maxRecDepth 20000 in
theorem tw_618 : Cond.methodLink RX8 34 yX7_at ∈ WT := wt_3 137 rfl rfl
set_option maxRecDepth 20000 in
theorem tw_619 : Cond.methodLink RX8 37 yX7_isLetter ∈ WT := wt_3 138 rfl rfl
set_option maxRecDepth 20000 in
theorem tw_620 : Cond.static yX7_isLetter ∈ WT := wt_3 139 rfl rfl
set_option maxRecDepth 20000 in
theorem tw_621 : Cond.code yX7_isLetter cX7_isLetter 1 (Option.some Jvm.ClassFile.FieldType.boolean) ∈ WT := wt_3 140 rfl rfl
set_option maxRecDepth 20000 in
theorem tw_622 : Cond.methodLink RX8 41 yX7_behindLetters ∈ WT := wt_3 141 rfl rfl
set_option maxRecDepth 20000 in
theorem tw_623 : Cond.instanceMethod yX7_behindLetters ∈ WT := wt_3 142 rfl rfl
set_option maxRecDepth 20000 in
theorem tw_624 : Cond.selects RX7 yX7_behindLetters yX7_behindLetters ∈ WT := wt_3 143 rfl rfl
set_option maxRecDepth 20000 in
theorem tw_625 : Cond.code yX7_behindLetters cX7_behindLetters 3 (Option.some Jvm.ClassFile.FieldType.int) ∈ WT := wt_3 144 rfl rfl
set_option maxRecDepth 20000 in
theorem tw_626 : Cond.methodLink RX7 23 yX7_isLetter ∈ WT := wt_3 145 rfl rfl
set_option maxRecDepth 20000 in
theorem tw_627 : Cond.methodLink RX8 44 yX8_wordBetween ∈ WT := wt_3 146 rfl rfl
set_option maxRecDepth 20000 in
theorem tw_628 : Cond.static yX8_wordBetween ∈ WT := wt_3 147 rfl rfl
set_option maxRecDepth 20000 in
theorem tw_629 : Cond.code yX8_wordBetween cX8_wordBetween 4 (Option.some Jvm.ClassFile.FieldType.int) ∈ WT := wt_3 148 rfl rfl
set_option maxRecDepth 20000 in
theorem tw_630 : Cond.methodLink RX8 62 yX8_spelled ∈ WT := wt_3 149 rfl rfl
set_option maxRecDepth 20000 in
theorem tw_631 : Cond.static yX8_spelled ∈ WT := wt_3 150 rfl rfl
set_option maxRecDepth 20000 in
theorem tw_632 : Cond.code yX8_spelled cX8_spelled 1 (Option.some (Jvm.ClassFile.FieldType.object "java/lang/String")) ∈ WT := wt_3 151 rfl rfl
set_option maxRecDepth 20000 in
theorem tw_650 : Cond.methodLink RX8 66 yX7_hasBetween ∈ WT := wt_3 169 rfl rfl
set_option maxRecDepth 20000 in
theorem tw_651 : Cond.instanceMethod yX7_hasBetween ∈ WT := wt_3 170 rfl rfl
set_option maxRecDepth 20000 in
theorem tw_652 : Cond.selects RX7 yX7_hasBetween yX7_hasBetween ∈ WT := wt_3 171 rfl rfl
set_option maxRecDepth 20000 in
theorem tw_653 : Cond.code yX7_hasBetween cX7_hasBetween 5 (Option.some Jvm.ClassFile.FieldType.boolean) ∈ WT := wt_3 172 rfl rfl
set_option maxRecDepth 20000 in
theorem tw_654 : Cond.methodLink RX7 36 yJ0_length_8abf5 ∈ WT := wt_3 173 rfl rfl
set_option maxRecDepth 20000 in
theorem tw_655 : Cond.instanceMethod yJ0_length_8abf5 ∈ WT := wt_3 174 rfl rfl
set_option maxRecDepth 20000 in
theorem tw_656 : Cond.selects RJ0 yJ0_length_8abf5 yJ0_length_8abf5 ∈ WT := wt_3 175 rfl rfl
set_option maxRecDepth 20000 in
theorem tw_657 : Cond.code yJ0_length_8abf5 cJ0_length_8abf5 1 (Option.some Jvm.ClassFile.FieldType.int) ∈ WT := wt_3 176 rfl rfl
set_option maxRecDepth 20000 in
theorem tw_658 : Cond.methodLink RJ0 335 yJ0_coder_7d493 ∈ WT := wt_3 177 rfl rfl
set_option maxRecDepth 20000 in
theorem tw_659 : Cond.instanceMethod yJ0_coder_7d493 ∈ WT := wt_3 178 rfl rfl
set_option maxRecDepth 20000 in
theorem tw_660 : Cond.selects RJ0 yJ0_coder_7d493 yJ0_coder_7d493 ∈ WT := wt_3 179 rfl rfl
set_option maxRecDepth 20000 in
theorem tw_661 : Cond.code yJ0_coder_7d493 cJ0_coder_7d493 1 (Option.some Jvm.ClassFile.FieldType.byte) ∈ WT := wt_3 180 rfl rfl
set_option maxRecDepth 20000 in
theorem tw_662 : Cond.fieldLink RJ0 38 "java/lang/String" "COMPACT_STRINGS" "Z" ∈ WT := wt_3 181 rfl rfl
set_option maxRecDepth 20000 in
theorem tw_664 : Cond.methodLink RX7 42 yJ0_charAt_5068e ∈ WT := wt_3 183 rfl rfl
set_option maxRecDepth 20000 in
theorem tw_665 : Cond.instanceMethod yJ0_charAt_5068e ∈ WT := wt_3 184 rfl rfl
set_option maxRecDepth 20000 in
theorem tw_666 : Cond.selects RJ0 yJ0_charAt_5068e yJ0_charAt_5068e ∈ WT := wt_3 185 rfl rfl
set_option maxRecDepth 20000 in
theorem tw_667 : Cond.code yJ0_charAt_5068e cJ0_charAt_5068e 2 (Option.some Jvm.ClassFile.FieldType.char) ∈ WT := wt_3 186 rfl rfl
set_option maxRecDepth 20000 in
theorem tw_668 : Cond.methodLink RJ0 492 yJ0_isLatin1_aae02 ∈ WT := wt_3 187 rfl rfl
set_option maxRecDepth 20000 in
theorem tw_669 : Cond.instanceMethod yJ0_isLatin1_aae02 ∈ WT := wt_3 188 rfl rfl
set_option maxRecDepth 20000 in
theorem tw_670 : Cond.selects RJ0 yJ0_isLatin1_aae02 yJ0_isLatin1_aae02 ∈ WT := wt_3 189 rfl rfl
set_option maxRecDepth 20000 in
theorem tw_671 : Cond.code yJ0_isLatin1_aae02 cJ0_isLatin1_aae02 1 (Option.some Jvm.ClassFile.FieldType.boolean) ∈ WT := wt_3 190 rfl rfl
set_option maxRecDepth 20000 in
theorem tw_672 : Cond.methodLink RJ0 495 yJ1_charAt_3b067 ∈ WT := wt_3 191 rfl rfl
set_option maxRecDepth 20000 in
theorem tw_673 : Cond.static yJ1_charAt_3b067 ∈ WT := wt_3 192 rfl rfl
set_option maxRecDepth 20000 in
theorem tw_674 : Cond.code yJ1_charAt_3b067 cJ1_charAt_3b067 2 (Option.some Jvm.ClassFile.FieldType.char) ∈ WT := wt_3 193 rfl rfl
set_option maxRecDepth 20000 in
theorem tw_675 : Cond.methodLink RJ1 9 yJ0_checkIndex_df160 ∈ WT := wt_3 194 rfl rfl
set_option maxRecDepth 20000 in
theorem tw_676 : Cond.static yJ0_checkIndex_df160 ∈ WT := wt_3 195 rfl rfl
set_option maxRecDepth 20000 in
theorem tw_677 : Cond.code yJ0_checkIndex_df160 cJ0_checkIndex_df160 2 (Option.none : Option Jvm.ClassFile.FieldType) ∈ WT := wt_3 196 rfl rfl
set_option maxRecDepth 20000 in
theorem tw_678 : Cond.fieldLink RJ0 1053 "jdk/internal/util/Preconditions" "SIOOBE_FORMATTER" "Ljava/util/function/BiFunction;" ∈ WT := wt_3 197 rfl rfl
set_option maxRecDepth 20000 in
theorem tw_680 : Cond.methodLink RJ0 1059 yJ3_checkIndex_8e157 ∈ WT := wt_3 199 rfl rfl
set_option maxRecDepth 20000 in
theorem tw_681 : Cond.static yJ3_checkIndex_8e157 ∈ WT := wt_3 200 rfl rfl
set_option maxRecDepth 20000 in
theorem tw_682 : Cond.code yJ3_checkIndex_8e157 cJ3_checkIndex_8e157 3 (Option.some Jvm.ClassFile.FieldType.int) ∈ WT := wt_3 201 rfl rfl
set_option maxRecDepth 20000 in
theorem tw_683 : Cond.methodLink RJ0 498 yJ2_charAt_3b067 ∈ WT := wt_3 202 rfl rfl
set_option maxRecDepth 20000 in
theorem tw_684 : Cond.static yJ2_charAt_3b067 ∈ WT := wt_3 203 rfl rfl
set_option maxRecDepth 20000 in
theorem tw_685 : Cond.code yJ2_charAt_3b067 cJ2_charAt_3b067 2 (Option.some Jvm.ClassFile.FieldType.char) ∈ WT := wt_3 204 rfl rfl
set_option maxRecDepth 20000 in
theorem tw_686 : Cond.methodLink RJ2 67 yJ2_checkIndex_2214a ∈ WT := wt_3 205 rfl rfl
set_option maxRecDepth 20000 in
theorem tw_687 : Cond.static yJ2_checkIndex_2214a ∈ WT := wt_3 206 rfl rfl
set_option maxRecDepth 20000 in
theorem tw_688 : Cond.code yJ2_checkIndex_2214a cJ2_checkIndex_2214a 2 (Option.none : Option Jvm.ClassFile.FieldType) ∈ WT := wt_3 207 rfl rfl
set_option maxRecDepth 20000 in
theorem tw_689 : Cond.methodLink RJ2 48 yJ2_length_9d52b ∈ WT := wt_3 208 rfl rfl
set_option maxRecDepth 20000 in
theorem tw_690 : Cond.static yJ2_length_9d52b ∈ WT := wt_3 209 rfl rfl
set_option maxRecDepth 20000 in
theorem tw_691 : Cond.code yJ2_length_9d52b cJ2_length_9d52b 1 (Option.some Jvm.ClassFile.FieldType.int) ∈ WT := wt_3 210 rfl rfl
set_option maxRecDepth 20000 in
theorem tw_692 : Cond.methodLink RJ2 414 yJ0_checkIndex_df160 ∈ WT := wt_3 211 rfl rfl
set_option maxRecDepth 20000 in
theorem tw_693 : Cond.methodLink RJ2 71 yJ2_getChar_3b067 ∈ WT := wt_3 212 rfl rfl
set_option maxRecDepth 20000 in
theorem tw_694 : Cond.static yJ2_getChar_3b067 ∈ WT := wt_3 213 rfl rfl
set_option maxRecDepth 20000 in
theorem tw_695 : Cond.code yJ2_getChar_3b067 cJ2_getChar_3b067 2 (Option.some Jvm.ClassFile.FieldType.char) ∈ WT := wt_3 214 rfl rfl
set_option maxRecDepth 20000 in
theorem tw_696 : Cond.fieldLink RJ2 44 "java/lang/StringUTF16" "$assertionsDisabled" "Z" ∈ WT := wt_3 215 rfl rfl
set_option maxRecDepth 20000 in
theorem tw_698 : Cond.fieldLink RJ2 59 "java/lang/StringUTF16" "HI_BYTE_SHIFT" "I" ∈ WT := wt_3 217 rfl rfl
set_option maxRecDepth 20000 in
theorem tw_700 : Cond.fieldLink RJ2 63 "java/lang/StringUTF16" "LO_BYTE_SHIFT" "I" ∈ WT := wt_3 219 rfl rfl
set_option maxRecDepth 20000 in
theorem tw_702 : Cond.methodLink RX8 48 yX8_add ∈ WT := wt_3 221 rfl rfl
set_option maxRecDepth 20000 in
theorem tw_704 : Cond.instanceMethod yX8_add ∈ WT := wt_3 223 rfl rfl
set_option maxRecDepth 20000 in
theorem tw_705 : Cond.code yX8_add cX8_add 4 (Option.none : Option Jvm.ClassFile.FieldType) ∈ WT := wt_3 224 rfl rfl
set_option maxRecDepth 20000 in
theorem tw_706 : Cond.methodLink RX8 52 yX7_isDigit ∈ WT := wt_3 225 rfl rfl
set_option maxRecDepth 20000 in
theorem tw_707 : Cond.static yX7_isDigit ∈ WT := wt_3 226 rfl rfl
set_option maxRecDepth 20000 in
theorem tw_708 : Cond.code yX7_isDigit cX7_isDigit 1 (Option.some Jvm.ClassFile.FieldType.boolean) ∈ WT := wt_3 227 rfl rfl
set_option maxRecDepth 20000 in
theorem tw_709 : Cond.methodLink RX8 55 yX7_behindDigits ∈ WT := wt_3 228 rfl rfl
set_option maxRecDepth 20000 in
theorem tw_710 : Cond.instanceMethod yX7_behindDigits ∈ WT := wt_3 229 rfl rfl
set_option maxRecDepth 20000 in
theorem tw_711 : Cond.selects RX7 yX7_behindDigits yX7_behindDigits ∈ WT := wt_3 230 rfl rfl
set_option maxRecDepth 20000 in
theorem tw_712 : Cond.code yX7_behindDigits cX7_behindDigits 3 (Option.some Jvm.ClassFile.FieldType.int) ∈ WT := wt_3 231 rfl rfl
set_option maxRecDepth 20000 in
theorem tw_713 : Cond.methodLink RX7 27 yX7_isDigit ∈ WT := wt_3 232 rfl rfl
set_option maxRecDepth 20000 in
theorem tw_714 : Cond.methodLink RX8 58 yX7_numberBetween ∈ WT := wt_3 233 rfl rfl
set_option maxRecDepth 20000 in
theorem tw_715 : Cond.instanceMethod yX7_numberBetween ∈ WT := wt_3 234 rfl rfl
set_option maxRecDepth 20000 in
theorem tw_716 : Cond.selects RX7 yX7_numberBetween yX7_numberBetween ∈ WT := wt_3 235 rfl rfl
set_option maxRecDepth 20000 in
theorem tw_717 : Cond.code yX7_numberBetween cX7_numberBetween 5 (Option.some Jvm.ClassFile.FieldType.int) ∈ WT := wt_3 236 rfl rfl
set_option maxRecDepth 20000 in
theorem tw_718 : Cond.methodLink RX7 30 yJ9_min_7cf53 ∈ WT := wt_3 237 rfl rfl
set_option maxRecDepth 20000 in
theorem tw_719 : Cond.methodLink RX4 37 yX4_readLaw ∈ WT := wt_3 238 rfl rfl
set_option maxRecDepth 20000 in
theorem tw_721 : Cond.instanceMethod yX4_readLaw ∈ WT := wt_4 0 rfl rfl
set_option maxRecDepth 20000 in
theorem tw_722 : Cond.code yX4_readLaw cX4_readLaw 1 (Option.some Jvm.ClassFile.FieldType.boolean) ∈ WT := wt_4 1 rfl rfl
set_option maxRecDepth 20000 in
theorem tw_723 : Cond.methodLink RX4 44 yX4_isWord ∈ WT := wt_4 2 rfl rfl
set_option maxRecDepth 20000 in
theorem tw_725 : Cond.instanceMethod yX4_isWord ∈ WT := wt_4 4 rfl rfl
set_option maxRecDepth 20000 in
theorem tw_726 : Cond.code yX4_isWord cX4_isWord 3 (Option.some Jvm.ClassFile.FieldType.boolean) ∈ WT := wt_4 5 rfl rfl
set_option maxRecDepth 20000 in
theorem tw_727 : Cond.methodLink RX4 41 yX8_kindAt ∈ WT := wt_4 6 rfl rfl
set_option maxRecDepth 20000 in
theorem tw_728 : Cond.instanceMethod yX8_kindAt ∈ WT := wt_4 7 rfl rfl
set_option maxRecDepth 20000 in
theorem tw_729 : Cond.selects RX8 yX8_kindAt yX8_kindAt ∈ WT := wt_4 8 rfl rfl
set_option maxRecDepth 20000 in
theorem tw_730 : Cond.code yX8_kindAt cX8_kindAt 2 (Option.some Jvm.ClassFile.FieldType.int) ∈ WT := wt_4 9 rfl rfl
set_option maxRecDepth 20000 in
theorem tw_731 : Cond.methodLink RX4 84 yX8_valueAt ∈ WT := wt_4 10 rfl rfl
set_option maxRecDepth 20000 in
theorem tw_732 : Cond.instanceMethod yX8_valueAt ∈ WT := wt_4 11 rfl rfl
set_option maxRecDepth 20000 in
theorem tw_733 : Cond.selects RX8 yX8_valueAt yX8_valueAt ∈ WT := wt_4 12 rfl rfl
set_option maxRecDepth 20000 in
theorem tw_734 : Cond.code yX8_valueAt cX8_valueAt 2 (Option.some Jvm.ClassFile.FieldType.int) ∈ WT := wt_4 13 rfl rfl
set_option maxRecDepth 20000 in
theorem tw_736 : Cond.methodLink RX4 48 yX1_append ∈ WT := wt_4 15 rfl rfl
set_option maxRecDepth 20000 in
theorem tw_737 : Cond.methodLink RX4 54 yX4_readTest ∈ WT := wt_4 16 rfl rfl
set_option maxRecDepth 20000 in
theorem tw_739 : Cond.instanceMethod yX4_readTest ∈ WT := wt_4 18 rfl rfl
set_option maxRecDepth 20000 in
theorem tw_740 : Cond.code yX4_readTest cX4_readTest 1 (Option.some Jvm.ClassFile.FieldType.boolean) ∈ WT := wt_4 19 rfl rfl
set_option maxRecDepth 20000 in
theorem tw_741 : Cond.methodLink RX4 57 yX4_takeWord ∈ WT := wt_4 20 rfl rfl
set_option maxRecDepth 20000 in
theorem tw_743 : Cond.instanceMethod yX4_takeWord ∈ WT := wt_4 22 rfl rfl
set_option maxRecDepth 20000 in
theorem tw_744 : Cond.code yX4_takeWord cX4_takeWord 2 (Option.some Jvm.ClassFile.FieldType.boolean) ∈ WT := wt_4 23 rfl rfl
set_option maxRecDepth 20000 in
theorem tw_745 : Cond.methodLink RX4 70 yX4_readLowAndHigh ∈ WT := wt_4 24 rfl rfl
set_option maxRecDepth 20000 in
theorem tw_747 : Cond.instanceMethod yX4_readLowAndHigh ∈ WT := wt_4 26 rfl rfl
set_option maxRecDepth 20000 in
theorem tw_748 : Cond.code yX4_readLowAndHigh cX4_readLowAndHigh 3 (Option.some Jvm.ClassFile.FieldType.boolean) ∈ WT := wt_4 27 rfl rfl
set_option maxRecDepth 20000 in
theorem tw_749 : Cond.methodLink RX4 76 yX1_put ∈ WT := wt_4 28 rfl rfl
set_option maxRecDepth 20000 in
theorem tw_750 : Cond.methodLink RX4 80 yX4_takeNumber ∈ WT := wt_4 29 rfl rfl
set_option maxRecDepth 20000 in
theorem tw_752 : Cond.instanceMethod yX4_takeNumber ∈ WT := wt_4 31 rfl rfl
set_option maxRecDepth 20000 in
theorem tw_753 : Cond.code yX4_takeNumber cX4_takeNumber 5 (Option.some Jvm.ClassFile.FieldType.boolean) ∈ WT := wt_4 32 rfl rfl
set_option maxRecDepth 20000 in
theorem tw_754 : Cond.methodLink RX4 73 yX4_takeTrait ∈ WT := wt_4 33 rfl rfl
set_option maxRecDepth 20000 in
theorem tw_756 : Cond.instanceMethod yX4_takeTrait ∈ WT := wt_4 35 rfl rfl
set_option maxRecDepth 20000 in
theorem tw_757 : Cond.code yX4_takeTrait cX4_takeTrait 2 (Option.some Jvm.ClassFile.FieldType.boolean) ∈ WT := wt_4 36 rfl rfl
set_option maxRecDepth 20000 in
theorem tw_758 : Cond.methodLink RX4 61 yX4_readGrant ∈ WT := wt_4 37 rfl rfl
set_option maxRecDepth 20000 in
theorem tw_760 : Cond.instanceMethod yX4_readGrant ∈ WT := wt_4 39 rfl rfl
set_option maxRecDepth 20000 in
theorem tw_761 : Cond.code yX4_readGrant cX4_readGrant 2 (Option.some Jvm.ClassFile.FieldType.boolean) ∈ WT := wt_4 40 rfl rfl
set_option maxRecDepth 20000 in
theorem tw_762 : Cond.methodLink RX4 87 yX1_grantNeedsTrait ∈ WT := wt_4 41 rfl rfl
set_option maxRecDepth 20000 in
theorem tw_763 : Cond.methodLink RX4 90 yX1_mostPart ∈ WT := wt_4 42 rfl rfl
set_option maxRecDepth 20000 in
theorem tw_764 : Cond.methodLink RX4 93 yX1_leastPart ∈ WT := wt_4 43 rfl rfl
set_option maxRecDepth 20000 in
theorem tw_765 : Cond.methodLink RX4 64 yX4_readSpan ∈ WT := wt_4 44 rfl rfl
set_option maxRecDepth 20000 in
theorem tw_767 : Cond.instanceMethod yX4_readSpan ∈ WT := wt_4 46 rfl rfl
set_option maxRecDepth 20000 in
theorem tw_768 : Cond.code yX4_readSpan cX4_readSpan 1 (Option.some Jvm.ClassFile.FieldType.boolean) ∈ WT := wt_4 47 rfl rfl
set_option maxRecDepth 20000 in
theorem tw_769 : Cond.methodLink RX4 96 yX1_at ∈ WT := wt_4 48 rfl rfl
set_option maxRecDepth 20000 in
theorem tw_770 : Cond.methodLink RX4 67 yX4_readException ∈ WT := wt_4 49 rfl rfl
set_option maxRecDepth 20000 in
theorem tw_772 : Cond.instanceMethod yX4_readException ∈ WT := wt_4 51 rfl rfl
set_option maxRecDepth 20000 in
theorem tw_773 : Cond.code yX4_readException cX4_readException 1 (Option.some Jvm.ClassFile.FieldType.boolean) ∈ WT := wt_4 52 rfl rfl
set_option maxRecDepth 20000 in
theorem tw_774 : Cond.methodLink RX10 264 yX4_place ∈ WT := wt_4 53 rfl rfl
set_option maxRecDepth 20000 in
theorem tw_775 : Cond.instanceMethod yX4_place ∈ WT := wt_4 54 rfl rfl
set_option maxRecDepth 20000 in
theorem tw_776 : Cond.selects RX4 yX4_place yX4_place ∈ WT := wt_4 55 rfl rfl
set_option maxRecDepth 20000 in
theorem tw_777 : Cond.code yX4_place cX4_place 1 (Option.some Jvm.ClassFile.FieldType.int) ∈ WT := wt_4 56 rfl rfl
set_option maxRecDepth 20000 in
theorem tw_778 : Cond.methodLink RX4 29 yX8_startAt ∈ WT := wt_4 57 rfl rfl
set_option maxRecDepth 20000 in
theorem tw_779 : Cond.instanceMethod yX8_startAt ∈ WT := wt_4 58 rfl rfl
set_option maxRecDepth 20000 in
theorem tw_780 : Cond.selects RX8 yX8_startAt yX8_startAt ∈ WT := wt_4 59 rfl rfl
set_option maxRecDepth 20000 in
theorem tw_781 : Cond.code yX8_startAt cX8_startAt 2 (Option.some Jvm.ClassFile.FieldType.int) ∈ WT := wt_4 60 rfl rfl
set_option maxRecDepth 20000 in
theorem tw_782 : Cond.arrayClass Jvm.ClassFile.FieldType.byte ∈ WT := wt_4 61 rfl rfl
set_option maxRecDepth 20000 in
theorem tw_783 : Cond.methodLink RL 144 yX10_seed ∈ WT := wt_4 62 rfl rfl
set_option maxRecDepth 20000 in
theorem tw_784 : Cond.instanceMethod yX10_seed ∈ WT := wt_4 63 rfl rfl
set_option maxRecDepth 20000 in
theorem tw_785 : Cond.selects RX10 yX10_seed yX10_seed ∈ WT := wt_4 64 rfl rfl
set_option maxRecDepth 20000 in
theorem tw_786 : Cond.code yX10_seed cX10_seed 3 (Option.some Jvm.ClassFile.FieldType.int) ∈ WT := wt_4 65 rfl rfl
set_option maxRecDepth 20000 in
theorem tw_787 : Cond.methodLink RL 148 yX10_sheet ∈ WT := wt_4 66 rfl rfl
set_option maxRecDepth 20000 in
theorem tw_788 : Cond.instanceMethod yX10_sheet ∈ WT := wt_4 67 rfl rfl
set_option maxRecDepth 20000 in
theorem tw_789 : Cond.selects RX10 yX10_sheet yX10_sheet ∈ WT := wt_4 68 rfl rfl
set_option maxRecDepth 20000 in
theorem tw_790 : Cond.code yX10_sheet cX10_sheet 4 (Option.some Jvm.ClassFile.FieldType.int) ∈ WT := wt_4 69 rfl rfl
set_option maxRecDepth 20000 in
theorem tw_791 : Cond.methodLink RX10 267 yX10_isSheet ∈ WT := wt_4 70 rfl rfl
set_option maxRecDepth 20000 in
theorem tw_792 : Cond.static yX10_isSheet ∈ WT := wt_4 71 rfl rfl
set_option maxRecDepth 20000 in
theorem tw_793 : Cond.code yX10_isSheet cX10_isSheet 1 (Option.some Jvm.ClassFile.FieldType.boolean) ∈ WT := wt_4 72 rfl rfl
set_option maxRecDepth 20000 in
theorem tw_794 : Cond.methodLink RX10 270 yX6_lose ∈ WT := wt_4 73 rfl rfl
set_option maxRecDepth 20000 in
theorem tw_795 : Cond.instanceMethod yX6_lose ∈ WT := wt_4 74 rfl rfl
set_option maxRecDepth 20000 in
theorem tw_796 : Cond.selects RX6 yX6_lose yX6_lose ∈ WT := wt_4 75 rfl rfl
set_option maxRecDepth 20000 in
theorem tw_797 : Cond.code yX6_lose cX6_lose 1 (Option.none : Option Jvm.ClassFile.FieldType) ∈ WT := wt_4 76 rfl rfl
set_option maxRecDepth 20000 in
theorem tw_798 : Cond.methodLink RX10 273 yX6_begin ∈ WT := wt_4 77 rfl rfl
set_option maxRecDepth 20000 in
theorem tw_799 : Cond.instanceMethod yX6_begin ∈ WT := wt_4 78 rfl rfl
set_option maxRecDepth 20000 in
theorem tw_800 : Cond.selects RX6 yX6_begin yX6_begin ∈ WT := wt_4 79 rfl rfl
set_option maxRecDepth 20000 in
theorem tw_801 : Cond.code yX6_begin cX6_begin 4 (Option.none : Option Jvm.ClassFile.FieldType) ∈ WT := wt_4 80 rfl rfl
set_option maxRecDepth 20000 in
theorem tw_802 : Cond.methodLink RL 152 yX10_write ∈ WT := wt_4 81 rfl rfl
set_option maxRecDepth 20000 in
theorem tw_803 : Cond.instanceMethod yX10_write ∈ WT := wt_4 82 rfl rfl
set_option maxRecDepth 20000 in
theorem tw_804 : Cond.selects RX10 yX10_write yX10_write ∈ WT := wt_4 83 rfl rfl
set_option maxRecDepth 20000 in
theorem tw_805 : Cond.code yX10_write cX10_write 4 (Option.some Jvm.ClassFile.FieldType.int) ∈ WT := wt_4 84 rfl rfl
set_option maxRecDepth 20000 in
theorem tw_806 : Cond.methodLink RX10 277 yX6_isMissing ∈ WT := wt_4 85 rfl rfl
set_option maxRecDepth 20000 in
theorem tw_807 : Cond.instanceMethod yX6_isMissing ∈ WT := wt_4 86 rfl rfl
set_option maxRecDepth 20000 in
theorem tw_808 : Cond.selects RX6 yX6_isMissing yX6_isMissing ∈ WT := wt_4 87 rfl rfl
set_option maxRecDepth 20000 in
theorem tw_809 : Cond.code yX6_isMissing cX6_isMissing 1 (Option.some Jvm.ClassFile.FieldType.boolean) ∈ WT := wt_4 88 rfl rfl
set_option maxRecDepth 20000 in
theorem tw_810 : Cond.methodLink RX10 281 yX6_size ∈ WT := wt_4 89 rfl rfl
set_option maxRecDepth 20000 in
theorem tw_811 : Cond.instanceMethod yX6_size ∈ WT := wt_4 90 rfl rfl
set_option maxRecDepth 20000 in
theorem tw_812 : Cond.selects RX6 yX6_size yX6_size ∈ WT := wt_4 91 rfl rfl
set_option maxRecDepth 20000 in
theorem tw_813 : Cond.code yX6_size cX6_size 1 (Option.some Jvm.ClassFile.FieldType.int) ∈ WT := wt_4 92 rfl rfl
set_option maxRecDepth 20000 in
theorem tw_814 : Cond.methodLink RX10 282 yX6_put ∈ WT := wt_4 93 rfl rfl
set_option maxRecDepth 20000 in
theorem tw_815 : Cond.instanceMethod yX6_put ∈ WT := wt_4 94 rfl rfl
set_option maxRecDepth 20000 in
theorem tw_816 : Cond.selects RX6 yX6_put yX6_put ∈ WT := wt_4 95 rfl rfl
set_option maxRecDepth 20000 in
theorem tw_817 : Cond.code yX6_put cX6_put 3 (Option.none : Option Jvm.ClassFile.FieldType) ∈ WT := wt_4 96 rfl rfl
set_option maxRecDepth 20000 in
theorem tw_818 : Cond.methodLink RL 156 yX10_item ∈ WT := wt_4 97 rfl rfl
set_option maxRecDepth 20000 in
theorem tw_819 : Cond.instanceMethod yX10_item ∈ WT := wt_4 98 rfl rfl
set_option maxRecDepth 20000 in
theorem tw_820 : Cond.selects RX10 yX10_item yX10_item ∈ WT := wt_4 99 rfl rfl
set_option maxRecDepth 20000 in
theorem tw_821 : Cond.code yX10_item cX10_item 3 (Option.some Jvm.ClassFile.FieldType.long) ∈ WT := wt_4 100 rfl rfl
set_option maxRecDepth 20000 in
theorem tw_822 : Cond.constantLong RX10 284 (-4611686018427387915) ∈ WT := wt_4 101 rfl rfl
set_option maxRecDepth 20000 in
theorem tw_823 : Cond.constantLong RX10 286 (-4611686018427387916) ∈ WT := wt_4 102 rfl rfl
set_option maxRecDepth 20000 in
theorem tw_824 : Cond.methodLink RX10 288 yX6_told ∈ WT := wt_4 103 rfl rfl
set_option maxRecDepth 20000 in
theorem tw_825 : Cond.instanceMethod yX6_told ∈ WT := wt_4 104 rfl rfl
set_option maxRecDepth 20000 in
theorem tw_826 : Cond.selects RX6 yX6_told yX6_told ∈ WT := wt_4 105 rfl rfl
set_option maxRecDepth 20000 in
theorem tw_827 : Cond.code yX6_told cX6_told 2 (Option.some Jvm.ClassFile.FieldType.long) ∈ WT := wt_4 106 rfl rfl
set_option maxRecDepth 20000 in
theorem tw_828 : Jvm.Cond.constantDouble "StatuteBook$Sheet" (22 : Nat) (4611686018427387904 : UInt64) ∈ WT := wt_4 107 rfl rfl
set_option maxRecDepth 20000 in
theorem tw_829 : Cond.methodLink RX6 24 yX0_ofDouble ∈ WT := wt_4 108 rfl rfl
set_option maxRecDepth 20000 in
theorem tw_830 : Cond.methodLink RL 161 yX10_copy ∈ WT := wt_4 109 rfl rfl
