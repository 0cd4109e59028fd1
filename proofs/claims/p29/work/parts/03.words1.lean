theorem kw_549 : Cond.instanceMethod yX7_add ∈ gw := gw_of (List.mem_of_getElem? (i := 549) (by decide +kernel)) rfl
theorem kw_550 : Cond.selects RX7 yX7_add yX7_add ∈ gw := gw_of (List.mem_of_getElem? (i := 550) (by decide +kernel)) rfl
theorem kw_551 : Cond.code yX7_add cX7_add 3 (Option.none : Option FieldType) ∈ gw := gw_of (List.mem_of_getElem? (i := 551) (by decide +kernel)) rfl
theorem kw_552 : Cond.methodLink RL 18 yX11_end ∈ gw := gw_of (List.mem_of_getElem? (i := 552) (by decide +kernel)) rfl
theorem kw_553 : Cond.instanceMethod yX11_end ∈ gw := gw_of (List.mem_of_getElem? (i := 553) (by decide +kernel)) rfl
theorem kw_554 : Cond.selects RX11 yX11_end yX11_end ∈ gw := gw_of (List.mem_of_getElem? (i := 554) (by decide +kernel)) rfl
theorem kw_555 : Cond.code yX11_end cX11_end 2 (Option.some FieldType.int) ∈ gw := gw_of (List.mem_of_getElem? (i := 555) (by decide +kernel)) rfl
theorem kw_556 : Cond.methodLink RL 23 yX11_dairy ∈ gw := gw_of (List.mem_of_getElem? (i := 556) (by decide +kernel)) rfl
theorem kw_557 : Cond.instanceMethod yX11_dairy ∈ gw := gw_of (List.mem_of_getElem? (i := 557) (by decide +kernel)) rfl
theorem kw_558 : Cond.selects RX11 yX11_dairy yX11_dairy ∈ gw := gw_of (List.mem_of_getElem? (i := 558) (by decide +kernel)) rfl
theorem kw_559 : Cond.code yX11_dairy cX11_dairy 2 (Option.some FieldType.int) ∈ gw := gw_of (List.mem_of_getElem? (i := 559) (by decide +kernel)) rfl
theorem kw_560 : Cond.methodLink RX11 120 yX0_read ∈ gw := gw_of (List.mem_of_getElem? (i := 560) (by decide +kernel)) rfl
theorem kw_561 : Cond.instanceMethod yX0_read ∈ gw := gw_of (List.mem_of_getElem? (i := 561) (by decide +kernel)) rfl
theorem kw_562 : Cond.selects RX0 yX0_read yX0_read ∈ gw := gw_of (List.mem_of_getElem? (i := 562) (by decide +kernel)) rfl
theorem kw_563 : Cond.code yX0_read cX0_read 2 (Option.some FieldType.boolean) ∈ gw := gw_of (List.mem_of_getElem? (i := 563) (by decide +kernel)) rfl
theorem kw_564 : Cond.methodLink RX0 29 yX8_clear ∈ gw := gw_of (List.mem_of_getElem? (i := 564) (by decide +kernel)) rfl
theorem kw_565 : Cond.instanceMethod yX8_clear ∈ gw := gw_of (List.mem_of_getElem? (i := 565) (by decide +kernel)) rfl
theorem kw_566 : Cond.selects RX8 yX8_clear yX8_clear ∈ gw := gw_of (List.mem_of_getElem? (i := 566) (by decide +kernel)) rfl
theorem kw_567 : Cond.code yX8_clear cX8_clear 1 (Option.none : Option FieldType) ∈ gw := gw_of (List.mem_of_getElem? (i := 567) (by decide +kernel)) rfl
theorem kw_568 : Cond.methodLink RX8 70 yJ7_fill_53178 ∈ gw := gw_of (List.mem_of_getElem? (i := 568) (by decide +kernel)) rfl
theorem kw_569 : Cond.methodLink RX0 32 yX5_clear ∈ gw := gw_of (List.mem_of_getElem? (i := 569) (by decide +kernel)) rfl
theorem kw_570 : Cond.instanceMethod yX5_clear ∈ gw := gw_of (List.mem_of_getElem? (i := 570) (by decide +kernel)) rfl
theorem kw_571 : Cond.selects RX5 yX5_clear yX5_clear ∈ gw := gw_of (List.mem_of_getElem? (i := 571) (by decide +kernel)) rfl
theorem kw_572 : Cond.code yX5_clear cX5_clear 1 (Option.none : Option FieldType) ∈ gw := gw_of (List.mem_of_getElem? (i := 572) (by decide +kernel)) rfl
theorem kw_573 : Cond.methodLink RX0 33 yX7_rewind ∈ gw := gw_of (List.mem_of_getElem? (i := 573) (by decide +kernel)) rfl
theorem kw_574 : Cond.instanceMethod yX7_rewind ∈ gw := gw_of (List.mem_of_getElem? (i := 574) (by decide +kernel)) rfl
theorem kw_575 : Cond.selects RX7 yX7_rewind yX7_rewind ∈ gw := gw_of (List.mem_of_getElem? (i := 575) (by decide +kernel)) rfl
theorem kw_576 : Cond.code yX7_rewind cX7_rewind 1 (Option.none : Option FieldType) ∈ gw := gw_of (List.mem_of_getElem? (i := 576) (by decide +kernel)) rfl
theorem kw_577 : Cond.methodLink RX0 38 yX0_readClause ∈ gw := gw_of (List.mem_of_getElem? (i := 577) (by decide +kernel)) rfl
theorem kw_579 : Cond.instanceMethod yX0_readClause ∈ gw := gw_of (List.mem_of_getElem? (i := 579) (by decide +kernel)) rfl
theorem kw_580 : Cond.code yX0_readClause cX0_readClause 4 (Option.some FieldType.boolean) ∈ gw := gw_of (List.mem_of_getElem? (i := 580) (by decide +kernel)) rfl
theorem kw_581 : Cond.methodLink RX0 92 yX0_takeKind ∈ gw := gw_of (List.mem_of_getElem? (i := 581) (by decide +kernel)) rfl
theorem kw_583 : Cond.instanceMethod yX0_takeKind ∈ gw := gw_of (List.mem_of_getElem? (i := 583) (by decide +kernel)) rfl
theorem kw_584 : Cond.code yX0_takeKind cX0_takeKind 2 (Option.some FieldType.int) ∈ gw := gw_of (List.mem_of_getElem? (i := 584) (by decide +kernel)) rfl
theorem kw_585 : Cond.methodLink RX0 68 yX0_nameOf ∈ gw := gw_of (List.mem_of_getElem? (i := 585) (by decide +kernel)) rfl
theorem kw_586 : Cond.static yX0_nameOf ∈ gw := gw_of (List.mem_of_getElem? (i := 586) (by decide +kernel)) rfl
theorem kw_587 : Cond.code yX0_nameOf cX0_nameOf 1 (Option.some (FieldType.object "java/lang/String")) ∈ gw := gw_of (List.mem_of_getElem? (i := 587) (by decide +kernel)) rfl
theorem kw_594 : Cond.methodLink RX0 72 yX7_takesWord ∈ gw := gw_of (List.mem_of_getElem? (i := 594) (by decide +kernel)) rfl
theorem kw_595 : Cond.instanceMethod yX7_takesWord ∈ gw := gw_of (List.mem_of_getElem? (i := 595) (by decide +kernel)) rfl
theorem kw_596 : Cond.selects RX7 yX7_takesWord yX7_takesWord ∈ gw := gw_of (List.mem_of_getElem? (i := 596) (by decide +kernel)) rfl
theorem kw_597 : Cond.code yX7_takesWord cX7_takesWord 4 (Option.some FieldType.boolean) ∈ gw := gw_of (List.mem_of_getElem? (i := 597) (by decide +kernel)) rfl
theorem kw_598 : Cond.methodLink RX7 28 yX7_look ∈ gw := gw_of (List.mem_of_getElem? (i := 598) (by decide +kernel)) rfl
theorem kw_599 : Cond.instanceMethod yX7_look ∈ gw := gw_of (List.mem_of_getElem? (i := 599) (by decide +kernel)) rfl
theorem kw_600 : Cond.selects RX7 yX7_look yX7_look ∈ gw := gw_of (List.mem_of_getElem? (i := 600) (by decide +kernel)) rfl
theorem kw_601 : Cond.code yX7_look cX7_look 1 (Option.some FieldType.int) ∈ gw := gw_of (List.mem_of_getElem? (i := 601) (by decide +kernel)) rfl
theorem kw_602 : Cond.methodLink RX7 36 yJ0_length_8abf5 ∈ gw := gw_of (List.mem_of_getElem? (i := 602) (by decide +kernel)) rfl
theorem kw_603 : Cond.instanceMethod yJ0_length_8abf5 ∈ gw := gw_of (List.mem_of_getElem? (i := 603) (by decide +kernel)) rfl
theorem kw_604 : Cond.selects RJ0 yJ0_length_8abf5 yJ0_length_8abf5 ∈ gw := gw_of (List.mem_of_getElem? (i := 604) (by decide +kernel)) rfl
theorem kw_605 : Cond.code yJ0_length_8abf5 cJ0_length_8abf5 1 (Option.some FieldType.int) ∈ gw := gw_of (List.mem_of_getElem? (i := 605) (by decide +kernel)) rfl
theorem kw_606 : Cond.methodLink RJ0 335 yJ0_coder_7d493 ∈ gw := gw_of (List.mem_of_getElem? (i := 606) (by decide +kernel)) rfl
theorem kw_607 : Cond.instanceMethod yJ0_coder_7d493 ∈ gw := gw_of (List.mem_of_getElem? (i := 607) (by decide +kernel)) rfl
theorem kw_608 : Cond.selects RJ0 yJ0_coder_7d493 yJ0_coder_7d493 ∈ gw := gw_of (List.mem_of_getElem? (i := 608) (by decide +kernel)) rfl
theorem kw_609 : Cond.code yJ0_coder_7d493 cJ0_coder_7d493 1 (Option.some FieldType.byte) ∈ gw := gw_of (List.mem_of_getElem? (i := 609) (by decide +kernel)) rfl
theorem kw_610 : Cond.fieldLink RJ0 38 "java/lang/String" "COMPACT_STRINGS" "Z" ∈ gw := gw_of (List.mem_of_getElem? (i := 610) (by decide +kernel)) rfl
theorem kw_612 : Cond.methodLink RX7 32 yX7_byteAt ∈ gw := gw_of (List.mem_of_getElem? (i := 612) (by decide +kernel)) rfl
theorem kw_614 : Cond.instanceMethod yX7_byteAt ∈ gw := gw_of (List.mem_of_getElem? (i := 614) (by decide +kernel)) rfl
theorem kw_615 : Cond.code yX7_byteAt cX7_byteAt 2 (Option.some FieldType.int) ∈ gw := gw_of (List.mem_of_getElem? (i := 615) (by decide +kernel)) rfl
theorem kw_616 : Cond.methodLink RX7 40 yJ0_charAt_5068e ∈ gw := gw_of (List.mem_of_getElem? (i := 616) (by decide +kernel)) rfl
theorem kw_617 : Cond.instanceMethod yJ0_charAt_5068e ∈ gw := gw_of (List.mem_of_getElem? (i := 617) (by decide +kernel)) rfl
theorem kw_618 : Cond.selects RJ0 yJ0_charAt_5068e yJ0_charAt_5068e ∈ gw := gw_of (List.mem_of_getElem? (i := 618) (by decide +kernel)) rfl
theorem kw_619 : Cond.code yJ0_charAt_5068e cJ0_charAt_5068e 2 (Option.some FieldType.char) ∈ gw := gw_of (List.mem_of_getElem? (i := 619) (by decide +kernel)) rfl
theorem kw_620 : Cond.methodLink RJ0 492 yJ0_isLatin1_aae02 ∈ gw := gw_of (List.mem_of_getElem? (i := 620) (by decide +kernel)) rfl
theorem kw_621 : Cond.instanceMethod yJ0_isLatin1_aae02 ∈ gw := gw_of (List.mem_of_getElem? (i := 621) (by decide +kernel)) rfl
theorem kw_622 : Cond.selects RJ0 yJ0_isLatin1_aae02 yJ0_isLatin1_aae02 ∈ gw := gw_of (List.mem_of_getElem? (i := 622) (by decide +kernel)) rfl
theorem kw_623 : Cond.code yJ0_isLatin1_aae02 cJ0_isLatin1_aae02 1 (Option.some FieldType.boolean) ∈ gw := gw_of (List.mem_of_getElem? (i := 623) (by decide +kernel)) rfl
theorem kw_624 : Cond.methodLink RJ0 495 yJ1_charAt_3b067 ∈ gw := gw_of (List.mem_of_getElem? (i := 624) (by decide +kernel)) rfl
theorem kw_625 : Cond.static yJ1_charAt_3b067 ∈ gw := gw_of (List.mem_of_getElem? (i := 625) (by decide +kernel)) rfl
theorem kw_626 : Cond.code yJ1_charAt_3b067 cJ1_charAt_3b067 2 (Option.some FieldType.char) ∈ gw := gw_of (List.mem_of_getElem? (i := 626) (by decide +kernel)) rfl
theorem kw_627 : Cond.methodLink RJ1 9 yJ0_checkIndex_df160 ∈ gw := gw_of (List.mem_of_getElem? (i := 627) (by decide +kernel)) rfl
theorem kw_628 : Cond.static yJ0_checkIndex_df160 ∈ gw := gw_of (List.mem_of_getElem? (i := 628) (by decide +kernel)) rfl
theorem kw_629 : Cond.code yJ0_checkIndex_df160 cJ0_checkIndex_df160 2 (Option.none : Option FieldType) ∈ gw := gw_of (List.mem_of_getElem? (i := 629) (by decide +kernel)) rfl
theorem kw_630 : Cond.fieldLink RJ0 1053 "jdk/internal/util/Preconditions" "SIOOBE_FORMATTER" "Ljava/util/function/BiFunction;" ∈ gw := gw_of (List.mem_of_getElem? (i := 630) (by decide +kernel)) rfl
theorem kw_632 : Cond.methodLink RJ0 1059 yJ3_checkIndex_8e157 ∈ gw := gw_of (List.mem_of_getElem? (i := 632) (by decide +kernel)) rfl
theorem kw_633 : Cond.static yJ3_checkIndex_8e157 ∈ gw := gw_of (List.mem_of_getElem? (i := 633) (by decide +kernel)) rfl
theorem kw_634 : Cond.code yJ3_checkIndex_8e157 cJ3_checkIndex_8e157 3 (Option.some FieldType.int) ∈ gw := gw_of (List.mem_of_getElem? (i := 634) (by decide +kernel)) rfl
theorem kw_635 : Cond.methodLink RJ0 498 yJ2_charAt_3b067 ∈ gw := gw_of (List.mem_of_getElem? (i := 635) (by decide +kernel)) rfl
theorem kw_636 : Cond.static yJ2_charAt_3b067 ∈ gw := gw_of (List.mem_of_getElem? (i := 636) (by decide +kernel)) rfl
theorem kw_637 : Cond.code yJ2_charAt_3b067 cJ2_charAt_3b067 2 (Option.some FieldType.char) ∈ gw := gw_of (List.mem_of_getElem? (i := 637) (by decide +kernel)) rfl
theorem kw_638 : Cond.methodLink RJ2 67 yJ2_checkIndex_2214a ∈ gw := gw_of (List.mem_of_getElem? (i := 638) (by decide +kernel)) rfl
theorem kw_639 : Cond.static yJ2_checkIndex_2214a ∈ gw := gw_of (List.mem_of_getElem? (i := 639) (by decide +kernel)) rfl
theorem kw_640 : Cond.code yJ2_checkIndex_2214a cJ2_checkIndex_2214a 2 (Option.none : Option FieldType) ∈ gw := gw_of (List.mem_of_getElem? (i := 640) (by decide +kernel)) rfl
theorem kw_641 : Cond.methodLink RJ2 48 yJ2_length_9d52b ∈ gw := gw_of (List.mem_of_getElem? (i := 641) (by decide +kernel)) rfl
theorem kw_642 : Cond.static yJ2_length_9d52b ∈ gw := gw_of (List.mem_of_getElem? (i := 642) (by decide +kernel)) rfl
theorem kw_643 : Cond.code yJ2_length_9d52b cJ2_length_9d52b 1 (Option.some FieldType.int) ∈ gw := gw_of (List.mem_of_getElem? (i := 643) (by decide +kernel)) rfl
theorem kw_644 : Cond.methodLink RJ2 414 yJ0_checkIndex_df160 ∈ gw := gw_of (List.mem_of_getElem? (i := 644) (by decide +kernel)) rfl
theorem kw_645 : Cond.methodLink RJ2 71 yJ2_getChar_3b067 ∈ gw := gw_of (List.mem_of_getElem? (i := 645) (by decide +kernel)) rfl
theorem kw_646 : Cond.static yJ2_getChar_3b067 ∈ gw := gw_of (List.mem_of_getElem? (i := 646) (by decide +kernel)) rfl
theorem kw_647 : Cond.code yJ2_getChar_3b067 cJ2_getChar_3b067 2 (Option.some FieldType.char) ∈ gw := gw_of (List.mem_of_getElem? (i := 647) (by decide +kernel)) rfl
theorem kw_648 : Cond.fieldLink RJ2 44 "java/lang/StringUTF16" "$assertionsDisabled" "Z" ∈ gw := gw_of (List.mem_of_getElem? (i := 648) (by decide +kernel)) rfl
theorem kw_650 : Cond.fieldLink RJ2 59 "java/lang/StringUTF16" "HI_BYTE_SHIFT" "I" ∈ gw := gw_of (List.mem_of_getElem? (i := 650) (by decide +kernel)) rfl
theorem kw_652 : Cond.fieldLink RJ2 63 "java/lang/StringUTF16" "LO_BYTE_SHIFT" "I" ∈ gw := gw_of (List.mem_of_getElem? (i := 652) (by decide +kernel)) rfl
theorem kw_654 : Cond.methodLink RX0 53 yX7_refuse ∈ gw := gw_of (List.mem_of_getElem? (i := 654) (by decide +kernel)) rfl
theorem kw_655 : Cond.instanceMethod yX7_refuse ∈ gw := gw_of (List.mem_of_getElem? (i := 655) (by decide +kernel)) rfl
theorem kw_656 : Cond.selects RX7 yX7_refuse yX7_refuse ∈ gw := gw_of (List.mem_of_getElem? (i := 656) (by decide +kernel)) rfl
theorem kw_657 : Cond.code yX7_refuse cX7_refuse 2 (Option.some FieldType.boolean) ∈ gw := gw_of (List.mem_of_getElem? (i := 657) (by decide +kernel)) rfl
theorem kw_658 : Cond.methodLink RX0 96 yX0_hasRoomFor ∈ gw := gw_of (List.mem_of_getElem? (i := 658) (by decide +kernel)) rfl
theorem kw_660 : Cond.instanceMethod yX0_hasRoomFor ∈ gw := gw_of (List.mem_of_getElem? (i := 660) (by decide +kernel)) rfl
theorem kw_661 : Cond.code yX0_hasRoomFor cX0_hasRoomFor 2 (Option.some FieldType.boolean) ∈ gw := gw_of (List.mem_of_getElem? (i := 661) (by decide +kernel)) rfl
theorem kw_662 : Cond.methodLink RX0 99 yX0_readDairy ∈ gw := gw_of (List.mem_of_getElem? (i := 662) (by decide +kernel)) rfl
theorem kw_664 : Cond.instanceMethod yX0_readDairy ∈ gw := gw_of (List.mem_of_getElem? (i := 664) (by decide +kernel)) rfl
theorem kw_665 : Cond.code yX0_readDairy cX0_readDairy 4 (Option.some FieldType.boolean) ∈ gw := gw_of (List.mem_of_getElem? (i := 665) (by decide +kernel)) rfl
theorem kw_666 : Cond.methodLink RX0 117 yX7_takeNumber ∈ gw := gw_of (List.mem_of_getElem? (i := 666) (by decide +kernel)) rfl
theorem kw_667 : Cond.instanceMethod yX7_takeNumber ∈ gw := gw_of (List.mem_of_getElem? (i := 667) (by decide +kernel)) rfl
theorem kw_668 : Cond.selects RX7 yX7_takeNumber yX7_takeNumber ∈ gw := gw_of (List.mem_of_getElem? (i := 668) (by decide +kernel)) rfl
theorem kw_669 : Cond.code yX7_takeNumber cX7_takeNumber 4 (Option.some FieldType.int) ∈ gw := gw_of (List.mem_of_getElem? (i := 669) (by decide +kernel)) rfl
theorem kw_670 : Cond.methodLink RX7 44 yX7_isDigit ∈ gw := gw_of (List.mem_of_getElem? (i := 670) (by decide +kernel)) rfl
theorem kw_671 : Cond.static yX7_isDigit ∈ gw := gw_of (List.mem_of_getElem? (i := 671) (by decide +kernel)) rfl
theorem kw_672 : Cond.code yX7_isDigit cX7_isDigit 1 (Option.some FieldType.boolean) ∈ gw := gw_of (List.mem_of_getElem? (i := 672) (by decide +kernel)) rfl
theorem kw_673 : Cond.methodLink RX7 48 yX7_refuse ∈ gw := gw_of (List.mem_of_getElem? (i := 673) (by decide +kernel)) rfl
theorem kw_674 : Cond.methodLink RX0 102 yX0_readRoad ∈ gw := gw_of (List.mem_of_getElem? (i := 674) (by decide +kernel)) rfl
theorem kw_676 : Cond.instanceMethod yX0_readRoad ∈ gw := gw_of (List.mem_of_getElem? (i := 676) (by decide +kernel)) rfl
theorem kw_677 : Cond.code yX0_readRoad cX0_readRoad 4 (Option.some FieldType.boolean) ∈ gw := gw_of (List.mem_of_getElem? (i := 677) (by decide +kernel)) rfl
theorem kw_678 : Cond.methodLink RX0 130 yX0_takePlace ∈ gw := gw_of (List.mem_of_getElem? (i := 678) (by decide +kernel)) rfl
theorem kw_680 : Cond.instanceMethod yX0_takePlace ∈ gw := gw_of (List.mem_of_getElem? (i := 680) (by decide +kernel)) rfl
theorem kw_681 : Cond.code yX0_takePlace cX0_takePlace 1 (Option.some FieldType.int) ∈ gw := gw_of (List.mem_of_getElem? (i := 681) (by decide +kernel)) rfl
theorem kw_682 : Cond.methodLink RX0 133 yX8_roadHours ∈ gw := gw_of (List.mem_of_getElem? (i := 682) (by decide +kernel)) rfl
theorem kw_683 : Cond.instanceMethod yX8_roadHours ∈ gw := gw_of (List.mem_of_getElem? (i := 683) (by decide +kernel)) rfl
theorem kw_684 : Cond.selects RX8 yX8_roadHours yX8_roadHours ∈ gw := gw_of (List.mem_of_getElem? (i := 684) (by decide +kernel)) rfl
theorem kw_685 : Cond.code yX8_roadHours cX8_roadHours 3 (Option.some FieldType.int) ∈ gw := gw_of (List.mem_of_getElem? (i := 685) (by decide +kernel)) rfl
theorem kw_686 : Cond.methodLink RX8 82 yX8_pair ∈ gw := gw_of (List.mem_of_getElem? (i := 686) (by decide +kernel)) rfl
theorem kw_687 : Cond.static yX8_pair ∈ gw := gw_of (List.mem_of_getElem? (i := 687) (by decide +kernel)) rfl
theorem kw_688 : Cond.code yX8_pair cX8_pair 2 (Option.some FieldType.int) ∈ gw := gw_of (List.mem_of_getElem? (i := 688) (by decide +kernel)) rfl
theorem kw_689 : Cond.methodLink RX0 136 yX8_addRoad ∈ gw := gw_of (List.mem_of_getElem? (i := 689) (by decide +kernel)) rfl
theorem kw_690 : Cond.instanceMethod yX8_addRoad ∈ gw := gw_of (List.mem_of_getElem? (i := 690) (by decide +kernel)) rfl
theorem kw_691 : Cond.selects RX8 yX8_addRoad yX8_addRoad ∈ gw := gw_of (List.mem_of_getElem? (i := 691) (by decide +kernel)) rfl
theorem kw_692 : Cond.code yX8_addRoad cX8_addRoad 4 (Option.none : Option FieldType) ∈ gw := gw_of (List.mem_of_getElem? (i := 692) (by decide +kernel)) rfl
theorem kw_693 : Cond.methodLink RX0 105 yX0_readHand ∈ gw := gw_of (List.mem_of_getElem? (i := 693) (by decide +kernel)) rfl
theorem kw_695 : Cond.instanceMethod yX0_readHand ∈ gw := gw_of (List.mem_of_getElem? (i := 695) (by decide +kernel)) rfl
theorem kw_696 : Cond.code yX0_readHand cX0_readHand 4 (Option.some FieldType.boolean) ∈ gw := gw_of (List.mem_of_getElem? (i := 696) (by decide +kernel)) rfl
theorem kw_697 : Cond.methodLink RX0 108 yX0_readJug ∈ gw := gw_of (List.mem_of_getElem? (i := 697) (by decide +kernel)) rfl
theorem kw_699 : Cond.instanceMethod yX0_readJug ∈ gw := gw_of (List.mem_of_getElem? (i := 699) (by decide +kernel)) rfl
theorem kw_700 : Cond.code yX0_readJug cX0_readJug 3 (Option.some FieldType.boolean) ∈ gw := gw_of (List.mem_of_getElem? (i := 700) (by decide +kernel)) rfl
theorem kw_701 : Cond.methodLink RX0 111 yX0_readHeat ∈ gw := gw_of (List.mem_of_getElem? (i := 701) (by decide +kernel)) rfl
theorem kw_703 : Cond.instanceMethod yX0_readHeat ∈ gw := gw_of (List.mem_of_getElem? (i := 703) (by decide +kernel)) rfl
theorem kw_704 : Cond.code yX0_readHeat cX0_readHeat 4 (Option.some FieldType.boolean) ∈ gw := gw_of (List.mem_of_getElem? (i := 704) (by decide +kernel)) rfl
theorem kw_705 : Cond.methodLink RX0 114 yX0_readWant ∈ gw := gw_of (List.mem_of_getElem? (i := 705) (by decide +kernel)) rfl
theorem kw_707 : Cond.instanceMethod yX0_readWant ∈ gw := gw_of (List.mem_of_getElem? (i := 707) (by decide +kernel)) rfl
theorem kw_708 : Cond.code yX0_readWant cX0_readWant 5 (Option.some FieldType.boolean) ∈ gw := gw_of (List.mem_of_getElem? (i := 708) (by decide +kernel)) rfl
theorem kw_709 : Cond.methodLink RX0 42 yX7_isAtEnd ∈ gw := gw_of (List.mem_of_getElem? (i := 709) (by decide +kernel)) rfl
theorem kw_710 : Cond.instanceMethod yX7_isAtEnd ∈ gw := gw_of (List.mem_of_getElem? (i := 710) (by decide +kernel)) rfl
theorem kw_711 : Cond.selects RX7 yX7_isAtEnd yX7_isAtEnd ∈ gw := gw_of (List.mem_of_getElem? (i := 711) (by decide +kernel)) rfl
theorem kw_712 : Cond.code yX7_isAtEnd cX7_isAtEnd 1 (Option.some FieldType.boolean) ∈ gw := gw_of (List.mem_of_getElem? (i := 712) (by decide +kernel)) rfl
theorem kw_713 : Cond.methodLink RX0 46 yX8_measureWays ∈ gw := gw_of (List.mem_of_getElem? (i := 713) (by decide +kernel)) rfl
theorem kw_714 : Cond.instanceMethod yX8_measureWays ∈ gw := gw_of (List.mem_of_getElem? (i := 714) (by decide +kernel)) rfl
theorem kw_715 : Cond.selects RX8 yX8_measureWays yX8_measureWays ∈ gw := gw_of (List.mem_of_getElem? (i := 715) (by decide +kernel)) rfl
theorem kw_716 : Cond.code yX8_measureWays cX8_measureWays 5 (Option.none : Option FieldType) ∈ gw := gw_of (List.mem_of_getElem? (i := 716) (by decide +kernel)) rfl
theorem kw_717 : Cond.methodLink RX8 86 yX8_roadHours ∈ gw := gw_of (List.mem_of_getElem? (i := 717) (by decide +kernel)) rfl
theorem kw_718 : Cond.methodLink RX8 89 yJ9_min_7cf53 ∈ gw := gw_of (List.mem_of_getElem? (i := 718) (by decide +kernel)) rfl
theorem kw_719 : Cond.static yJ9_min_7cf53 ∈ gw := gw_of (List.mem_of_getElem? (i := 719) (by decide +kernel)) rfl
theorem kw_720 : Cond.code yJ9_min_7cf53 cJ9_min_7cf53 2 (Option.some FieldType.int) ∈ gw := gw_of (List.mem_of_getElem? (i := 720) (by decide +kernel)) rfl
theorem kw_721 : Cond.methodLink RX0 49 yX7_takesSign ∈ gw := gw_of (List.mem_of_getElem? (i := 721) (by decide +kernel)) rfl
theorem kw_722 : Cond.instanceMethod yX7_takesSign ∈ gw := gw_of (List.mem_of_getElem? (i := 722) (by decide +kernel)) rfl
theorem kw_723 : Cond.selects RX7 yX7_takesSign yX7_takesSign ∈ gw := gw_of (List.mem_of_getElem? (i := 723) (by decide +kernel)) rfl
theorem kw_724 : Cond.code yX7_takesSign cX7_takesSign 2 (Option.some FieldType.boolean) ∈ gw := gw_of (List.mem_of_getElem? (i := 724) (by decide +kernel)) rfl
theorem kw_725 : Cond.methodLink RX11 128 yX8_become ∈ gw := gw_of (List.mem_of_getElem? (i := 725) (by decide +kernel)) rfl
theorem kw_726 : Cond.instanceMethod yX8_become ∈ gw := gw_of (List.mem_of_getElem? (i := 726) (by decide +kernel)) rfl
theorem kw_727 : Cond.selects RX8 yX8_become yX8_become ∈ gw := gw_of (List.mem_of_getElem? (i := 727) (by decide +kernel)) rfl
theorem kw_728 : Cond.code yX8_become cX8_become 2 (Option.none : Option FieldType) ∈ gw := gw_of (List.mem_of_getElem? (i := 728) (by decide +kernel)) rfl
theorem kw_729 : Cond.methodLink RX8 76 ⟨"java/lang/System", "arraycopy", "(Ljava/lang/Object;ILjava/lang/Object;II)V"⟩ ∈ gw := gw_of (List.mem_of_getElem? (i := 729) (by decide +kernel)) rfl
theorem kw_730 : Cond.static ⟨"java/lang/System", "arraycopy", "(Ljava/lang/Object;ILjava/lang/Object;II)V"⟩ ∈ gw := gw_of (List.mem_of_getElem? (i := 730) (by decide +kernel)) rfl
theorem kw_731 : Cond.native ⟨"java/lang/System", "arraycopy", "(Ljava/lang/Object;ILjava/lang/Object;II)V"⟩ ∈ gw := gw_of (List.mem_of_getElem? (i := 731) (by decide +kernel)) rfl
theorem kw_732 : Cond.methodLink RX11 137 yX5_become ∈ gw := gw_of (List.mem_of_getElem? (i := 732) (by decide +kernel)) rfl
theorem kw_733 : Cond.instanceMethod yX5_become ∈ gw := gw_of (List.mem_of_getElem? (i := 733) (by decide +kernel)) rfl
theorem kw_734 : Cond.selects RX5 yX5_become yX5_become ∈ gw := gw_of (List.mem_of_getElem? (i := 734) (by decide +kernel)) rfl
theorem kw_735 : Cond.code yX5_become cX5_become 2 (Option.none : Option FieldType) ∈ gw := gw_of (List.mem_of_getElem? (i := 735) (by decide +kernel)) rfl
theorem kw_736 : Cond.methodLink RX5 46 ⟨"java/lang/System", "arraycopy", "(Ljava/lang/Object;ILjava/lang/Object;II)V"⟩ ∈ gw := gw_of (List.mem_of_getElem? (i := 736) (by decide +kernel)) rfl
theorem kw_737 : Cond.methodLink RL 28 yX11_rule ∈ gw := gw_of (List.mem_of_getElem? (i := 737) (by decide +kernel)) rfl
theorem kw_738 : Cond.instanceMethod yX11_rule ∈ gw := gw_of (List.mem_of_getElem? (i := 738) (by decide +kernel)) rfl
theorem kw_739 : Cond.selects RX11 yX11_rule yX11_rule ∈ gw := gw_of (List.mem_of_getElem? (i := 739) (by decide +kernel)) rfl
theorem kw_740 : Cond.code yX11_rule cX11_rule 2 (Option.some FieldType.int) ∈ gw := gw_of (List.mem_of_getElem? (i := 740) (by decide +kernel)) rfl
theorem kw_741 : Cond.methodLink RX11 152 yX3_read ∈ gw := gw_of (List.mem_of_getElem? (i := 741) (by decide +kernel)) rfl
theorem kw_742 : Cond.instanceMethod yX3_read ∈ gw := gw_of (List.mem_of_getElem? (i := 742) (by decide +kernel)) rfl
theorem kw_743 : Cond.selects RX3 yX3_read yX3_read ∈ gw := gw_of (List.mem_of_getElem? (i := 743) (by decide +kernel)) rfl
theorem kw_744 : Cond.code yX3_read cX3_read 2 (Option.some FieldType.boolean) ∈ gw := gw_of (List.mem_of_getElem? (i := 744) (by decide +kernel)) rfl
theorem kw_745 : Cond.methodLink RX3 35 yX7_rewind ∈ gw := gw_of (List.mem_of_getElem? (i := 745) (by decide +kernel)) rfl
theorem kw_746 : Cond.methodLink RX3 40 yX3_readClause ∈ gw := gw_of (List.mem_of_getElem? (i := 746) (by decide +kernel)) rfl
theorem kw_748 : Cond.instanceMethod yX3_readClause ∈ gw := gw_of (List.mem_of_getElem? (i := 748) (by decide +kernel)) rfl
theorem kw_749 : Cond.code yX3_readClause cX3_readClause 3 (Option.some FieldType.boolean) ∈ gw := gw_of (List.mem_of_getElem? (i := 749) (by decide +kernel)) rfl
theorem kw_751 : Cond.methodLink RX3 57 yX7_takesWord ∈ gw := gw_of (List.mem_of_getElem? (i := 751) (by decide +kernel)) rfl
theorem kw_752 : Cond.methodLink RX3 52 yX7_refuse ∈ gw := gw_of (List.mem_of_getElem? (i := 752) (by decide +kernel)) rfl
theorem kw_753 : Cond.methodLink RX3 73 yX3_readValue ∈ gw := gw_of (List.mem_of_getElem? (i := 753) (by decide +kernel)) rfl
theorem kw_755 : Cond.instanceMethod yX3_readValue ∈ gw := gw_of (List.mem_of_getElem? (i := 755) (by decide +kernel)) rfl
theorem kw_756 : Cond.code yX3_readValue cX3_readValue 2 (Option.some FieldType.boolean) ∈ gw := gw_of (List.mem_of_getElem? (i := 756) (by decide +kernel)) rfl
theorem kw_757 : Cond.methodLink RX3 94 yX7_isAtDigit ∈ gw := gw_of (List.mem_of_getElem? (i := 757) (by decide +kernel)) rfl
theorem kw_758 : Cond.instanceMethod yX7_isAtDigit ∈ gw := gw_of (List.mem_of_getElem? (i := 758) (by decide +kernel)) rfl
theorem kw_759 : Cond.selects RX7 yX7_isAtDigit yX7_isAtDigit ∈ gw := gw_of (List.mem_of_getElem? (i := 759) (by decide +kernel)) rfl
theorem kw_760 : Cond.code yX7_isAtDigit cX7_isAtDigit 1 (Option.some FieldType.boolean) ∈ gw := gw_of (List.mem_of_getElem? (i := 760) (by decide +kernel)) rfl
theorem kw_761 : Cond.constant RX3 97 (99999 : Int32) ∈ gw := gw_of (List.mem_of_getElem? (i := 761) (by decide +kernel)) rfl
theorem kw_762 : Cond.methodLink RX3 98 yX7_takeNumber ∈ gw := gw_of (List.mem_of_getElem? (i := 762) (by decide +kernel)) rfl
theorem kw_763 : Cond.methodLink RX3 102 yX3_takeValueWord ∈ gw := gw_of (List.mem_of_getElem? (i := 763) (by decide +kernel)) rfl
theorem kw_765 : Cond.instanceMethod yX3_takeValueWord ∈ gw := gw_of (List.mem_of_getElem? (i := 765) (by decide +kernel)) rfl
theorem kw_766 : Cond.code yX3_takeValueWord cX3_takeValueWord 2 (Option.some FieldType.int) ∈ gw := gw_of (List.mem_of_getElem? (i := 766) (by decide +kernel)) rfl
theorem kw_767 : Cond.methodLink RX3 106 yX10_nameOf ∈ gw := gw_of (List.mem_of_getElem? (i := 767) (by decide +kernel)) rfl
theorem kw_768 : Cond.static yX10_nameOf ∈ gw := gw_of (List.mem_of_getElem? (i := 768) (by decide +kernel)) rfl
theorem kw_769 : Cond.code yX10_nameOf cX10_nameOf 1 (Option.some (FieldType.object "java/lang/String")) ∈ gw := gw_of (List.mem_of_getElem? (i := 769) (by decide +kernel)) rfl
theorem kw_780 : Cond.methodLink RX3 88 yX3_write ∈ gw := gw_of (List.mem_of_getElem? (i := 780) (by decide +kernel)) rfl
theorem kw_782 : Cond.instanceMethod yX3_write ∈ gw := gw_of (List.mem_of_getElem? (i := 782) (by decide +kernel)) rfl
theorem kw_783 : Cond.code yX3_write cX3_write 2 (Option.none : Option FieldType) ∈ gw := gw_of (List.mem_of_getElem? (i := 783) (by decide +kernel)) rfl
theorem kw_784 : Cond.methodLink RX3 76 yX3_closeBrackets ∈ gw := gw_of (List.mem_of_getElem? (i := 784) (by decide +kernel)) rfl
theorem kw_786 : Cond.instanceMethod yX3_closeBrackets ∈ gw := gw_of (List.mem_of_getElem? (i := 786) (by decide +kernel)) rfl
theorem kw_787 : Cond.code yX3_closeBrackets cX3_closeBrackets 1 (Option.none : Option FieldType) ∈ gw := gw_of (List.mem_of_getElem? (i := 787) (by decide +kernel)) rfl
theorem kw_788 : Cond.methodLink RX3 110 yX3_isFactWhole ∈ gw := gw_of (List.mem_of_getElem? (i := 788) (by decide +kernel)) rfl
theorem kw_790 : Cond.instanceMethod yX3_isFactWhole ∈ gw := gw_of (List.mem_of_getElem? (i := 790) (by decide +kernel)) rfl
theorem kw_791 : Cond.code yX3_isFactWhole cX3_isFactWhole 1 (Option.some FieldType.boolean) ∈ gw := gw_of (List.mem_of_getElem? (i := 791) (by decide +kernel)) rfl
theorem kw_792 : Cond.methodLink RX3 48 yX7_takesSign ∈ gw := gw_of (List.mem_of_getElem? (i := 792) (by decide +kernel)) rfl
theorem kw_793 : Cond.methodLink RX3 82 yX3_unpile ∈ gw := gw_of (List.mem_of_getElem? (i := 793) (by decide +kernel)) rfl
theorem kw_795 : Cond.instanceMethod yX3_unpile ∈ gw := gw_of (List.mem_of_getElem? (i := 795) (by decide +kernel)) rfl
theorem kw_796 : Cond.code yX3_unpile cX3_unpile 3 (Option.none : Option FieldType) ∈ gw := gw_of (List.mem_of_getElem? (i := 796) (by decide +kernel)) rfl
theorem kw_797 : Cond.methodLink RX3 151 yX3_bindingOf ∈ gw := gw_of (List.mem_of_getElem? (i := 797) (by decide +kernel)) rfl
theorem kw_798 : Cond.static yX3_bindingOf ∈ gw := gw_of (List.mem_of_getElem? (i := 798) (by decide +kernel)) rfl
theorem kw_799 : Cond.code yX3_bindingOf cX3_bindingOf 1 (Option.some FieldType.int) ∈ gw := gw_of (List.mem_of_getElem? (i := 799) (by decide +kernel)) rfl
theorem kw_800 : Cond.methodLink RX3 113 yX3_dropTop ∈ gw := gw_of (List.mem_of_getElem? (i := 800) (by decide +kernel)) rfl
theorem kw_802 : Cond.instanceMethod yX3_dropTop ∈ gw := gw_of (List.mem_of_getElem? (i := 802) (by decide +kernel)) rfl
theorem kw_803 : Cond.code yX3_dropTop cX3_dropTop 1 (Option.none : Option FieldType) ∈ gw := gw_of (List.mem_of_getElem? (i := 803) (by decide +kernel)) rfl
theorem kw_804 : Cond.methodLink RX3 79 yX3_endsHere ∈ gw := gw_of (List.mem_of_getElem? (i := 804) (by decide +kernel)) rfl
theorem kw_806 : Cond.instanceMethod yX3_endsHere ∈ gw := gw_of (List.mem_of_getElem? (i := 806) (by decide +kernel)) rfl
theorem kw_807 : Cond.code yX3_endsHere cX3_endsHere 2 (Option.some FieldType.boolean) ∈ gw := gw_of (List.mem_of_getElem? (i := 807) (by decide +kernel)) rfl
theorem kw_808 : Cond.methodLink RX3 44 yX7_isAtEnd ∈ gw := gw_of (List.mem_of_getElem? (i := 808) (by decide +kernel)) rfl
theorem kw_809 : Cond.methodLink RX3 116 yX7_look ∈ gw := gw_of (List.mem_of_getElem? (i := 809) (by decide +kernel)) rfl
theorem kw_810 : Cond.methodLink RX3 91 yX3_readJoint ∈ gw := gw_of (List.mem_of_getElem? (i := 810) (by decide +kernel)) rfl
theorem kw_812 : Cond.instanceMethod yX3_readJoint ∈ gw := gw_of (List.mem_of_getElem? (i := 812) (by decide +kernel)) rfl
theorem kw_813 : Cond.code yX3_readJoint cX3_readJoint 2 (Option.some FieldType.boolean) ∈ gw := gw_of (List.mem_of_getElem? (i := 813) (by decide +kernel)) rfl
theorem kw_814 : Cond.methodLink RX3 119 yX3_takeArithmetic ∈ gw := gw_of (List.mem_of_getElem? (i := 814) (by decide +kernel)) rfl
theorem kw_816 : Cond.instanceMethod yX3_takeArithmetic ∈ gw := gw_of (List.mem_of_getElem? (i := 816) (by decide +kernel)) rfl
theorem kw_817 : Cond.code yX3_takeArithmetic cX3_takeArithmetic 1 (Option.some FieldType.int) ∈ gw := gw_of (List.mem_of_getElem? (i := 817) (by decide +kernel)) rfl
theorem kw_818 : Cond.methodLink RX3 122 yX3_pileUp ∈ gw := gw_of (List.mem_of_getElem? (i := 818) (by decide +kernel)) rfl
theorem kw_820 : Cond.instanceMethod yX3_pileUp ∈ gw := gw_of (List.mem_of_getElem? (i := 820) (by decide +kernel)) rfl
theorem kw_821 : Cond.code yX3_pileUp cX3_pileUp 2 (Option.none : Option FieldType) ∈ gw := gw_of (List.mem_of_getElem? (i := 821) (by decide +kernel)) rfl
theorem kw_822 : Cond.methodLink RX3 148 yX3_push ∈ gw := gw_of (List.mem_of_getElem? (i := 822) (by decide +kernel)) rfl
theorem kw_824 : Cond.instanceMethod yX3_push ∈ gw := gw_of (List.mem_of_getElem? (i := 824) (by decide +kernel)) rfl
theorem kw_825 : Cond.code yX3_push cX3_push 2 (Option.none : Option FieldType) ∈ gw := gw_of (List.mem_of_getElem? (i := 825) (by decide +kernel)) rfl
theorem kw_826 : Cond.methodLink RX3 125 yX3_readIf ∈ gw := gw_of (List.mem_of_getElem? (i := 826) (by decide +kernel)) rfl
theorem kw_828 : Cond.instanceMethod yX3_readIf ∈ gw := gw_of (List.mem_of_getElem? (i := 828) (by decide +kernel)) rfl
theorem kw_829 : Cond.code yX3_readIf cX3_readIf 1 (Option.some FieldType.boolean) ∈ gw := gw_of (List.mem_of_getElem? (i := 829) (by decide +kernel)) rfl
theorem kw_831 : Cond.methodLink RX3 135 yX3_beginFact ∈ gw := gw_of (List.mem_of_getElem? (i := 831) (by decide +kernel)) rfl
theorem kw_833 : Cond.instanceMethod yX3_beginFact ∈ gw := gw_of (List.mem_of_getElem? (i := 833) (by decide +kernel)) rfl
theorem kw_834 : Cond.code yX3_beginFact cX3_beginFact 3 (Option.some FieldType.boolean) ∈ gw := gw_of (List.mem_of_getElem? (i := 834) (by decide +kernel)) rfl
theorem kw_836 : Cond.methodLink RX3 128 yX3_readComparison ∈ gw := gw_of (List.mem_of_getElem? (i := 836) (by decide +kernel)) rfl
theorem kw_838 : Cond.instanceMethod yX3_readComparison ∈ gw := gw_of (List.mem_of_getElem? (i := 838) (by decide +kernel)) rfl
theorem kw_839 : Cond.code yX3_readComparison cX3_readComparison 2 (Option.some FieldType.boolean) ∈ gw := gw_of (List.mem_of_getElem? (i := 839) (by decide +kernel)) rfl
theorem kw_840 : Cond.methodLink RX3 140 yX3_takeComparison ∈ gw := gw_of (List.mem_of_getElem? (i := 840) (by decide +kernel)) rfl
theorem kw_842 : Cond.instanceMethod yX3_takeComparison ∈ gw := gw_of (List.mem_of_getElem? (i := 842) (by decide +kernel)) rfl
theorem kw_843 : Cond.code yX3_takeComparison cX3_takeComparison 1 (Option.some FieldType.int) ∈ gw := gw_of (List.mem_of_getElem? (i := 843) (by decide +kernel)) rfl
theorem kw_844 : Cond.methodLink RX3 143 yX7_continuesWith ∈ gw := gw_of (List.mem_of_getElem? (i := 844) (by decide +kernel)) rfl
theorem kw_845 : Cond.instanceMethod yX7_continuesWith ∈ gw := gw_of (List.mem_of_getElem? (i := 845) (by decide +kernel)) rfl
theorem kw_846 : Cond.selects RX7 yX7_continuesWith yX7_continuesWith ∈ gw := gw_of (List.mem_of_getElem? (i := 846) (by decide +kernel)) rfl
theorem kw_847 : Cond.code yX7_continuesWith cX7_continuesWith 2 (Option.some FieldType.boolean) ∈ gw := gw_of (List.mem_of_getElem? (i := 847) (by decide +kernel)) rfl
theorem kw_850 : Cond.methodLink RX11 153 yX3_copyOfCode ∈ gw := gw_of (List.mem_of_getElem? (i := 850) (by decide +kernel)) rfl
theorem kw_851 : Cond.instanceMethod yX3_copyOfCode ∈ gw := gw_of (List.mem_of_getElem? (i := 851) (by decide +kernel)) rfl
theorem kw_852 : Cond.selects RX3 yX3_copyOfCode yX3_copyOfCode ∈ gw := gw_of (List.mem_of_getElem? (i := 852) (by decide +kernel)) rfl
theorem kw_853 : Cond.code yX3_copyOfCode cX3_copyOfCode 1 (Option.some (FieldType.array FieldType.int)) ∈ gw := gw_of (List.mem_of_getElem? (i := 853) (by decide +kernel)) rfl
theorem kw_854 : Cond.methodLink RX3 26 yJ7_copyOf_59c91 ∈ gw := gw_of (List.mem_of_getElem? (i := 854) (by decide +kernel)) rfl
theorem kw_855 : Cond.static yJ7_copyOf_59c91 ∈ gw := gw_of (List.mem_of_getElem? (i := 855) (by decide +kernel)) rfl
theorem kw_856 : Cond.code yJ7_copyOf_59c91 cJ7_copyOf_59c91 3 (Option.some (FieldType.array FieldType.int)) ∈ gw := gw_of (List.mem_of_getElem? (i := 856) (by decide +kernel)) rfl
theorem kw_857 : Cond.methodLink RJ7 316 ⟨"[I", "clone", "()Ljava/lang/Object;"⟩ ∈ gw := gw_of (List.mem_of_getElem? (i := 857) (by decide +kernel)) rfl
theorem kw_859 : Cond.native ⟨"java/lang/Object", "clone", "()Ljava/lang/Object;"⟩ ∈ gw := gw_of (List.mem_of_getElem? (i := 859) (by decide +kernel)) rfl
theorem kw_860 : Cond.instanceMethod ⟨"java/lang/Object", "clone", "()Ljava/lang/Object;"⟩ ∈ gw := gw_of (List.mem_of_getElem? (i := 860) (by decide +kernel)) rfl
theorem kw_861 : Cond.selects "[I" ⟨"[I", "clone", "()Ljava/lang/Object;"⟩ ⟨"java/lang/Object", "clone", "()Ljava/lang/Object;"⟩ ∈ gw := gw_of (List.mem_of_getElem? (i := 861) (by decide +kernel)) rfl
theorem kw_863 : Cond.classLink RJ7 317 "[I" ∈ gw := gw_of (List.mem_of_getElem? (i := 863) (by decide +kernel)) rfl
theorem kw_864 : Cond.methodLink RJ7 304 yJ9_min_7cf53 ∈ gw := gw_of (List.mem_of_getElem? (i := 864) (by decide +kernel)) rfl
theorem kw_865 : Cond.methodLink RJ7 150 ⟨"java/lang/System", "arraycopy", "(Ljava/lang/Object;ILjava/lang/Object;II)V"⟩ ∈ gw := gw_of (List.mem_of_getElem? (i := 865) (by decide +kernel)) rfl
theorem kw_866 : Cond.methodLink RL 32 yX11_force ∈ gw := gw_of (List.mem_of_getElem? (i := 866) (by decide +kernel)) rfl
theorem kw_867 : Cond.instanceMethod yX11_force ∈ gw := gw_of (List.mem_of_getElem? (i := 867) (by decide +kernel)) rfl
theorem kw_868 : Cond.selects RX11 yX11_force yX11_force ∈ gw := gw_of (List.mem_of_getElem? (i := 868) (by decide +kernel)) rfl
theorem kw_869 : Cond.code yX11_force cX11_force 3 (Option.some FieldType.int) ∈ gw := gw_of (List.mem_of_getElem? (i := 869) (by decide +kernel)) rfl
theorem kw_870 : Cond.methodLink RX11 160 yX11_enforce ∈ gw := gw_of (List.mem_of_getElem? (i := 870) (by decide +kernel)) rfl
theorem kw_872 : Cond.instanceMethod yX11_enforce ∈ gw := gw_of (List.mem_of_getElem? (i := 872) (by decide +kernel)) rfl
theorem kw_873 : Cond.code yX11_enforce cX11_enforce 2 (Option.none : Option FieldType) ∈ gw := gw_of (List.mem_of_getElem? (i := 873) (by decide +kernel)) rfl
theorem kw_874 : Cond.methodLink RL 36 yX11_hand ∈ gw := gw_of (List.mem_of_getElem? (i := 874) (by decide +kernel)) rfl
theorem kw_875 : Cond.instanceMethod yX11_hand ∈ gw := gw_of (List.mem_of_getElem? (i := 875) (by decide +kernel)) rfl
theorem kw_876 : Cond.selects RX11 yX11_hand yX11_hand ∈ gw := gw_of (List.mem_of_getElem? (i := 876) (by decide +kernel)) rfl
theorem kw_877 : Cond.code yX11_hand cX11_hand 3 (Option.some FieldType.int) ∈ gw := gw_of (List.mem_of_getElem? (i := 877) (by decide +kernel)) rfl
theorem kw_878 : Cond.methodLink RX11 181 yX11_isHand ∈ gw := gw_of (List.mem_of_getElem? (i := 878) (by decide +kernel)) rfl
theorem kw_880 : Cond.instanceMethod yX11_isHand ∈ gw := gw_of (List.mem_of_getElem? (i := 880) (by decide +kernel)) rfl
theorem kw_881 : Cond.code yX11_isHand cX11_isHand 2 (Option.some FieldType.boolean) ∈ gw := gw_of (List.mem_of_getElem? (i := 881) (by decide +kernel)) rfl
theorem kw_882 : Cond.methodLink RX11 193 yX5_heldBits ∈ gw := gw_of (List.mem_of_getElem? (i := 882) (by decide +kernel)) rfl
theorem kw_883 : Cond.instanceMethod yX5_heldBits ∈ gw := gw_of (List.mem_of_getElem? (i := 883) (by decide +kernel)) rfl
theorem kw_884 : Cond.selects RX5 yX5_heldBits yX5_heldBits ∈ gw := gw_of (List.mem_of_getElem? (i := 884) (by decide +kernel)) rfl
theorem kw_885 : Cond.code yX5_heldBits cX5_heldBits 4 (Option.some FieldType.int) ∈ gw := gw_of (List.mem_of_getElem? (i := 885) (by decide +kernel)) rfl
theorem kw_886 : Cond.methodLink RL 41 yX11_jug ∈ gw := gw_of (List.mem_of_getElem? (i := 886) (by decide +kernel)) rfl
theorem kw_887 : Cond.instanceMethod yX11_jug ∈ gw := gw_of (List.mem_of_getElem? (i := 887) (by decide +kernel)) rfl
theorem kw_888 : Cond.selects RX11 yX11_jug yX11_jug ∈ gw := gw_of (List.mem_of_getElem? (i := 888) (by decide +kernel)) rfl
theorem kw_889 : Cond.code yX11_jug cX11_jug 3 (Option.some FieldType.int) ∈ gw := gw_of (List.mem_of_getElem? (i := 889) (by decide +kernel)) rfl
theorem kw_890 : Cond.methodLink RX11 175 yX11_isJug ∈ gw := gw_of (List.mem_of_getElem? (i := 890) (by decide +kernel)) rfl
theorem kw_892 : Cond.instanceMethod yX11_isJug ∈ gw := gw_of (List.mem_of_getElem? (i := 892) (by decide +kernel)) rfl
theorem kw_893 : Cond.code yX11_isJug cX11_isJug 2 (Option.some FieldType.boolean) ∈ gw := gw_of (List.mem_of_getElem? (i := 893) (by decide +kernel)) rfl
theorem kw_894 : Cond.methodLink RX11 215 yX5_isGone ∈ gw := gw_of (List.mem_of_getElem? (i := 894) (by decide +kernel)) rfl
theorem kw_895 : Cond.instanceMethod yX5_isGone ∈ gw := gw_of (List.mem_of_getElem? (i := 895) (by decide +kernel)) rfl
theorem kw_896 : Cond.selects RX5 yX5_isGone yX5_isGone ∈ gw := gw_of (List.mem_of_getElem? (i := 896) (by decide +kernel)) rfl
theorem kw_897 : Cond.code yX5_isGone cX5_isGone 2 (Option.some FieldType.boolean) ∈ gw := gw_of (List.mem_of_getElem? (i := 897) (by decide +kernel)) rfl
theorem kw_898 : Cond.methodLink RL 45 yX11_want ∈ gw := gw_of (List.mem_of_getElem? (i := 898) (by decide +kernel)) rfl
theorem kw_899 : Cond.instanceMethod yX11_want ∈ gw := gw_of (List.mem_of_getElem? (i := 899) (by decide +kernel)) rfl
theorem kw_900 : Cond.selects RX11 yX11_want yX11_want ∈ gw := gw_of (List.mem_of_getElem? (i := 900) (by decide +kernel)) rfl
theorem kw_901 : Cond.code yX11_want cX11_want 3 (Option.some FieldType.int) ∈ gw := gw_of (List.mem_of_getElem? (i := 901) (by decide +kernel)) rfl
theorem kw_902 : Cond.methodLink RX11 218 yX11_isWant ∈ gw := gw_of (List.mem_of_getElem? (i := 902) (by decide +kernel)) rfl
theorem kw_904 : Cond.instanceMethod yX11_isWant ∈ gw := gw_of (List.mem_of_getElem? (i := 904) (by decide +kernel)) rfl
theorem kw_905 : Cond.code yX11_isWant cX11_isWant 2 (Option.some FieldType.boolean) ∈ gw := gw_of (List.mem_of_getElem? (i := 905) (by decide +kernel)) rfl
theorem kw_906 : Cond.methodLink RX11 236 yX11_jugFor ∈ gw := gw_of (List.mem_of_getElem? (i := 906) (by decide +kernel)) rfl
theorem kw_908 : Cond.instanceMethod yX11_jugFor ∈ gw := gw_of (List.mem_of_getElem? (i := 908) (by decide +kernel)) rfl
theorem kw_909 : Cond.code yX11_jugFor cX11_jugFor 4 (Option.some FieldType.int) ∈ gw := gw_of (List.mem_of_getElem? (i := 909) (by decide +kernel)) rfl
theorem kw_910 : Cond.methodLink RX11 239 yX8_suits ∈ gw := gw_of (List.mem_of_getElem? (i := 910) (by decide +kernel)) rfl
theorem kw_911 : Cond.instanceMethod yX8_suits ∈ gw := gw_of (List.mem_of_getElem? (i := 911) (by decide +kernel)) rfl
theorem kw_912 : Cond.selects RX8 yX8_suits yX8_suits ∈ gw := gw_of (List.mem_of_getElem? (i := 912) (by decide +kernel)) rfl
theorem kw_913 : Cond.code yX8_suits cX8_suits 3 (Option.some FieldType.boolean) ∈ gw := gw_of (List.mem_of_getElem? (i := 913) (by decide +kernel)) rfl
theorem kw_914 : Cond.methodLink RL 49 yX11_hour ∈ gw := gw_of (List.mem_of_getElem? (i := 914) (by decide +kernel)) rfl
theorem kw_915 : Cond.instanceMethod yX11_hour ∈ gw := gw_of (List.mem_of_getElem? (i := 915) (by decide +kernel)) rfl
theorem kw_916 : Cond.selects RX11 yX11_hour yX11_hour ∈ gw := gw_of (List.mem_of_getElem? (i := 916) (by decide +kernel)) rfl
theorem kw_917 : Cond.code yX11_hour cX11_hour 1 (Option.some FieldType.int) ∈ gw := gw_of (List.mem_of_getElem? (i := 917) (by decide +kernel)) rfl
theorem kw_918 : Cond.methodLink RX11 255 yX11_keepPast ∈ gw := gw_of (List.mem_of_getElem? (i := 918) (by decide +kernel)) rfl
theorem kw_920 : Cond.instanceMethod yX11_keepPast ∈ gw := gw_of (List.mem_of_getElem? (i := 920) (by decide +kernel)) rfl
theorem kw_921 : Cond.code yX11_keepPast cX11_keepPast 1 (Option.none : Option FieldType) ∈ gw := gw_of (List.mem_of_getElem? (i := 921) (by decide +kernel)) rfl
theorem kw_922 : Cond.methodLink RX11 246 yJ9_min_7cf53 ∈ gw := gw_of (List.mem_of_getElem? (i := 922) (by decide +kernel)) rfl
theorem kw_923 : Cond.methodLink RX11 258 yX1_pass ∈ gw := gw_of (List.mem_of_getElem? (i := 923) (by decide +kernel)) rfl
theorem kw_924 : Cond.instanceMethod yX1_pass ∈ gw := gw_of (List.mem_of_getElem? (i := 924) (by decide +kernel)) rfl
theorem kw_925 : Cond.selects RX1 yX1_pass yX1_pass ∈ gw := gw_of (List.mem_of_getElem? (i := 925) (by decide +kernel)) rfl
theorem kw_926 : Cond.code yX1_pass cX1_pass 5 (Option.some FieldType.int) ∈ gw := gw_of (List.mem_of_getElem? (i := 926) (by decide +kernel)) rfl
theorem kw_927 : Cond.methodLink RX1 34 yX1_turnsIn ∈ gw := gw_of (List.mem_of_getElem? (i := 927) (by decide +kernel)) rfl
theorem kw_929 : Cond.instanceMethod yX1_turnsIn ∈ gw := gw_of (List.mem_of_getElem? (i := 929) (by decide +kernel)) rfl
theorem kw_930 : Cond.code yX1_turnsIn cX1_turnsIn 3 (Option.some FieldType.int) ∈ gw := gw_of (List.mem_of_getElem? (i := 930) (by decide +kernel)) rfl
theorem kw_931 : Cond.methodLink RX1 66 yX5_stands ∈ gw := gw_of (List.mem_of_getElem? (i := 931) (by decide +kernel)) rfl
theorem kw_932 : Cond.instanceMethod yX5_stands ∈ gw := gw_of (List.mem_of_getElem? (i := 932) (by decide +kernel)) rfl
theorem kw_933 : Cond.selects RX5 yX5_stands yX5_stands ∈ gw := gw_of (List.mem_of_getElem? (i := 933) (by decide +kernel)) rfl
theorem kw_934 : Cond.code yX5_stands cX5_stands 2 (Option.some FieldType.boolean) ∈ gw := gw_of (List.mem_of_getElem? (i := 934) (by decide +kernel)) rfl
theorem kw_935 : Cond.methodLink RX1 73 yX10_heatIn ∈ gw := gw_of (List.mem_of_getElem? (i := 935) (by decide +kernel)) rfl
theorem kw_936 : Cond.instanceMethod yX10_heatIn ∈ gw := gw_of (List.mem_of_getElem? (i := 936) (by decide +kernel)) rfl
theorem kw_937 : Cond.selects RX10 yX10_heatIn yX10_heatIn ∈ gw := gw_of (List.mem_of_getElem? (i := 937) (by decide +kernel)) rfl
theorem kw_938 : Cond.code yX10_heatIn cX10_heatIn 2 (Option.some FieldType.int) ∈ gw := gw_of (List.mem_of_getElem? (i := 938) (by decide +kernel)) rfl
theorem kw_939 : Cond.methodLink RX10 73 yX8_heatIn ∈ gw := gw_of (List.mem_of_getElem? (i := 939) (by decide +kernel)) rfl
theorem kw_940 : Cond.instanceMethod yX8_heatIn ∈ gw := gw_of (List.mem_of_getElem? (i := 940) (by decide +kernel)) rfl
theorem kw_941 : Cond.selects RX8 yX8_heatIn yX8_heatIn ∈ gw := gw_of (List.mem_of_getElem? (i := 941) (by decide +kernel)) rfl
theorem kw_942 : Cond.code yX8_heatIn cX8_heatIn 4 (Option.some FieldType.int) ∈ gw := gw_of (List.mem_of_getElem? (i := 942) (by decide +kernel)) rfl
theorem kw_943 : Cond.methodLink RX1 77 yX5_isGone ∈ gw := gw_of (List.mem_of_getElem? (i := 943) (by decide +kernel)) rfl
theorem kw_944 : Cond.methodLink RX1 83 yX10_see ∈ gw := gw_of (List.mem_of_getElem? (i := 944) (by decide +kernel)) rfl
theorem kw_945 : Cond.instanceMethod yX10_see ∈ gw := gw_of (List.mem_of_getElem? (i := 945) (by decide +kernel)) rfl
theorem kw_946 : Cond.selects RX10 yX10_see yX10_see ∈ gw := gw_of (List.mem_of_getElem? (i := 946) (by decide +kernel)) rfl
theorem kw_947 : Cond.code yX10_see cX10_see 4 (Option.none : Option FieldType) ∈ gw := gw_of (List.mem_of_getElem? (i := 947) (by decide +kernel)) rfl
theorem kw_948 : Cond.methodLink RX10 86 yX5_isAtPlace ∈ gw := gw_of (List.mem_of_getElem? (i := 948) (by decide +kernel)) rfl
theorem kw_949 : Cond.instanceMethod yX5_isAtPlace ∈ gw := gw_of (List.mem_of_getElem? (i := 949) (by decide +kernel)) rfl
theorem kw_950 : Cond.selects RX5 yX5_isAtPlace yX5_isAtPlace ∈ gw := gw_of (List.mem_of_getElem? (i := 950) (by decide +kernel)) rfl
theorem kw_951 : Cond.code yX5_isAtPlace cX5_isAtPlace 2 (Option.some FieldType.boolean) ∈ gw := gw_of (List.mem_of_getElem? (i := 951) (by decide +kernel)) rfl
