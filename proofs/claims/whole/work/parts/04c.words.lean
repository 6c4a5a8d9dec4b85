set_option maxRecDepth 20000 in
theorem tw_607 : Cond.methodLink "NestedDeeds$Marking" 40 ⟨"NestedDeeds$Marking", "ended", "(J)J"⟩ ∈ tb := tb_mem (List.mem_of_getElem? (i := 607) (by decide +kernel)) rfl
set_option maxRecDepth 20000 in
theorem tw_608 : Cond.static ⟨"NestedDeeds$Marking", "ended", "(J)J"⟩ ∈ tb := tb_mem (List.mem_of_getElem? (i := 608) (by decide +kernel)) rfl
set_option maxRecDepth 20000 in
theorem tw_609 : Cond.code ⟨"NestedDeeds$Marking", "ended", "(J)J"⟩ prog_6_method_4_code 2 (some .long) ∈ tb := tb_mem (List.mem_of_getElem? (i := 609) (by decide +kernel)) rfl
set_option maxRecDepth 20000 in
theorem tw_610 : Cond.selects "NestedDeeds$Weighing" ⟨"NestedDeeds$Task", "leave", "(II)V"⟩ ⟨"NestedDeeds$Task", "leave", "(II)V"⟩ ∈ tb := tb_mem (List.mem_of_getElem? (i := 610) (by decide +kernel)) rfl
set_option maxRecDepth 20000 in
theorem tw_611 : Cond.selects "NestedDeeds$Writing" ⟨"NestedDeeds$Task", "leave", "(II)V"⟩ ⟨"NestedDeeds$Writing", "leave", "(II)V"⟩ ∈ tb := tb_mem (List.mem_of_getElem? (i := 611) (by decide +kernel)) rfl
set_option maxRecDepth 20000 in
theorem tw_612 : Cond.instanceMethod ⟨"NestedDeeds$Writing", "leave", "(II)V"⟩ ∈ tb := tb_mem (List.mem_of_getElem? (i := 612) (by decide +kernel)) rfl
set_option maxRecDepth 20000 in
theorem tw_613 : Cond.code ⟨"NestedDeeds$Writing", "leave", "(II)V"⟩ prog_12_method_4_code 3 none ∈ tb := tb_mem (List.mem_of_getElem? (i := 613) (by decide +kernel)) rfl
set_option maxRecDepth 20000 in
theorem tw_614 : Cond.code ⟨"NestedDeeds$Task", "leave", "(II)V"⟩ prog_9_method_5_code 3 none ∈ tb := tb_mem (List.mem_of_getElem? (i := 614) (by decide +kernel)) rfl
set_option maxRecDepth 20000 in
theorem tw_615 : Cond.methodLink "NestedDeeds$Walker" 105 ⟨"NestedDeeds$Task", "takeUp", "(III)V"⟩ ∈ tb := tb_mem (List.mem_of_getElem? (i := 615) (by decide +kernel)) rfl
set_option maxRecDepth 20000 in
theorem tw_616 : Cond.instanceMethod ⟨"NestedDeeds$Task", "takeUp", "(III)V"⟩ ∈ tb := tb_mem (List.mem_of_getElem? (i := 616) (by decide +kernel)) rfl
set_option maxRecDepth 20000 in
theorem tw_617 : Cond.selects "NestedDeeds$Task" ⟨"NestedDeeds$Task", "takeUp", "(III)V"⟩ ⟨"NestedDeeds$Task", "takeUp", "(III)V"⟩ ∈ tb := tb_mem (List.mem_of_getElem? (i := 617) (by decide +kernel)) rfl
set_option maxRecDepth 20000 in
theorem tw_618 : Cond.sameMethod "NestedDeeds$Task" "NestedDeeds$Task" "takeUp" "(III)V" ∈ tb := tb_mem (List.mem_of_getElem? (i := 618) (by decide +kernel)) rfl
set_option maxRecDepth 20000 in
theorem tw_619 : Cond.selects "NestedDeeds$Comparing" ⟨"NestedDeeds$Task", "takeUp", "(III)V"⟩ ⟨"NestedDeeds$Task", "takeUp", "(III)V"⟩ ∈ tb := tb_mem (List.mem_of_getElem? (i := 619) (by decide +kernel)) rfl
set_option maxRecDepth 20000 in
theorem tw_620 : Cond.selects "NestedDeeds$Copying" ⟨"NestedDeeds$Task", "takeUp", "(III)V"⟩ ⟨"NestedDeeds$Copying", "takeUp", "(III)V"⟩ ∈ tb := tb_mem (List.mem_of_getElem? (i := 620) (by decide +kernel)) rfl
set_option maxRecDepth 20000 in
theorem tw_621 : Cond.instanceMethod ⟨"NestedDeeds$Copying", "takeUp", "(III)V"⟩ ∈ tb := tb_mem (List.mem_of_getElem? (i := 621) (by decide +kernel)) rfl
set_option maxRecDepth 20000 in
theorem tw_622 : Cond.code ⟨"NestedDeeds$Copying", "takeUp", "(III)V"⟩ prog_3_method_8_code 4 none ∈ tb := tb_mem (List.mem_of_getElem? (i := 622) (by decide +kernel)) rfl
set_option maxRecDepth 20000 in
theorem tw_623 : Cond.selects "NestedDeeds$Finding" ⟨"NestedDeeds$Task", "takeUp", "(III)V"⟩ ⟨"NestedDeeds$Task", "takeUp", "(III)V"⟩ ∈ tb := tb_mem (List.mem_of_getElem? (i := 623) (by decide +kernel)) rfl
set_option maxRecDepth 20000 in
theorem tw_624 : Cond.selects "NestedDeeds$Marking" ⟨"NestedDeeds$Task", "takeUp", "(III)V"⟩ ⟨"NestedDeeds$Marking", "takeUp", "(III)V"⟩ ∈ tb := tb_mem (List.mem_of_getElem? (i := 624) (by decide +kernel)) rfl
set_option maxRecDepth 20000 in
theorem tw_625 : Cond.instanceMethod ⟨"NestedDeeds$Marking", "takeUp", "(III)V"⟩ ∈ tb := tb_mem (List.mem_of_getElem? (i := 625) (by decide +kernel)) rfl
set_option maxRecDepth 20000 in
theorem tw_626 : Cond.code ⟨"NestedDeeds$Marking", "takeUp", "(III)V"⟩ prog_6_method_6_code 4 none ∈ tb := tb_mem (List.mem_of_getElem? (i := 626) (by decide +kernel)) rfl
set_option maxRecDepth 20000 in
theorem tw_627 : Cond.methodLink "NestedDeeds$Marking" 36 ⟨"NestedDeeds$Marking", "with", "(JJ)J"⟩ ∈ tb := tb_mem (List.mem_of_getElem? (i := 627) (by decide +kernel)) rfl
set_option maxRecDepth 20000 in
theorem tw_628 : Cond.static ⟨"NestedDeeds$Marking", "with", "(JJ)J"⟩ ∈ tb := tb_mem (List.mem_of_getElem? (i := 628) (by decide +kernel)) rfl
set_option maxRecDepth 20000 in
theorem tw_629 : Cond.code ⟨"NestedDeeds$Marking", "with", "(JJ)J"⟩ prog_6_method_3_code 4 (some .long) ∈ tb := tb_mem (List.mem_of_getElem? (i := 629) (by decide +kernel)) rfl
set_option maxRecDepth 20000 in
theorem tw_630 : Cond.constantLong "NestedDeeds$Marking" 17 (1000003 : Int64) ∈ tb := tb_mem (List.mem_of_getElem? (i := 630) (by decide +kernel)) rfl
set_option maxRecDepth 20000 in
theorem tw_631 : Cond.selects "NestedDeeds$Weighing" ⟨"NestedDeeds$Task", "takeUp", "(III)V"⟩ ⟨"NestedDeeds$Weighing", "takeUp", "(III)V"⟩ ∈ tb := tb_mem (List.mem_of_getElem? (i := 631) (by decide +kernel)) rfl
set_option maxRecDepth 20000 in
theorem tw_632 : Cond.instanceMethod ⟨"NestedDeeds$Weighing", "takeUp", "(III)V"⟩ ∈ tb := tb_mem (List.mem_of_getElem? (i := 632) (by decide +kernel)) rfl
set_option maxRecDepth 20000 in
theorem tw_633 : Cond.code ⟨"NestedDeeds$Weighing", "takeUp", "(III)V"⟩ prog_11_method_5_code 8 none ∈ tb := tb_mem (List.mem_of_getElem? (i := 633) (by decide +kernel)) rfl
set_option maxRecDepth 20000 in
theorem tw_634 : Cond.methodLink "NestedDeeds$Weighing" 49 ⟨"java/lang/Math", "max", "(JJ)J"⟩ ∈ tb := tb_mem (List.mem_of_getElem? (i := 634) (by decide +kernel)) rfl
set_option maxRecDepth 20000 in
theorem tw_635 : Cond.static ⟨"java/lang/Math", "max", "(JJ)J"⟩ ∈ tb := tb_mem (List.mem_of_getElem? (i := 635) (by decide +kernel)) rfl
set_option maxRecDepth 20000 in
theorem tw_636 : Cond.code ⟨"java/lang/Math", "max", "(JJ)J"⟩ prog_16_method_66_code 4 (some .long) ∈ tb := tb_mem (List.mem_of_getElem? (i := 636) (by decide +kernel)) rfl
set_option maxRecDepth 20000 in
theorem tw_637 : Cond.methodLink "NestedDeeds$Weighing" 52 ⟨"java/lang/Math", "min", "(JJ)J"⟩ ∈ tb := tb_mem (List.mem_of_getElem? (i := 637) (by decide +kernel)) rfl
set_option maxRecDepth 20000 in
theorem tw_638 : Cond.static ⟨"java/lang/Math", "min", "(JJ)J"⟩ ∈ tb := tb_mem (List.mem_of_getElem? (i := 638) (by decide +kernel)) rfl
set_option maxRecDepth 20000 in
theorem tw_639 : Cond.code ⟨"java/lang/Math", "min", "(JJ)J"⟩ prog_16_method_70_code 4 (some .long) ∈ tb := tb_mem (List.mem_of_getElem? (i := 639) (by decide +kernel)) rfl
set_option maxRecDepth 20000 in
theorem tw_640 : Cond.methodLink "NestedDeeds$Weighing" 55 ⟨"NestedDeeds$Weighing", "takeUpLike", "(IIJ)V"⟩ ∈ tb := tb_mem (List.mem_of_getElem? (i := 640) (by decide +kernel)) rfl
set_option maxRecDepth 20000 in
theorem tw_642 : Cond.instanceMethod ⟨"NestedDeeds$Weighing", "takeUpLike", "(IIJ)V"⟩ ∈ tb := tb_mem (List.mem_of_getElem? (i := 642) (by decide +kernel)) rfl
set_option maxRecDepth 20000 in
theorem tw_643 : Cond.code ⟨"NestedDeeds$Weighing", "takeUpLike", "(IIJ)V"⟩ prog_11_method_6_code 5 none ∈ tb := tb_mem (List.mem_of_getElem? (i := 643) (by decide +kernel)) rfl
set_option maxRecDepth 20000 in
theorem tw_644 : Cond.methodLink "NestedDeeds$Weighing" 59 ⟨"java/lang/Long", "rotateLeft", "(JI)J"⟩ ∈ tb := tb_mem (List.mem_of_getElem? (i := 644) (by decide +kernel)) rfl
set_option maxRecDepth 20000 in
theorem tw_645 : Cond.static ⟨"java/lang/Long", "rotateLeft", "(JI)J"⟩ ∈ tb := tb_mem (List.mem_of_getElem? (i := 645) (by decide +kernel)) rfl
set_option maxRecDepth 20000 in
theorem tw_646 : Cond.code ⟨"java/lang/Long", "rotateLeft", "(JI)J"⟩ prog_15_method_51_code 3 (some .long) ∈ tb := tb_mem (List.mem_of_getElem? (i := 646) (by decide +kernel)) rfl
set_option maxRecDepth 20000 in
theorem tw_647 : Cond.selects "NestedDeeds$Writing" ⟨"NestedDeeds$Task", "takeUp", "(III)V"⟩ ⟨"NestedDeeds$Task", "takeUp", "(III)V"⟩ ∈ tb := tb_mem (List.mem_of_getElem? (i := 647) (by decide +kernel)) rfl
set_option maxRecDepth 20000 in
theorem tw_648 : Cond.code ⟨"NestedDeeds$Task", "takeUp", "(III)V"⟩ prog_9_method_4_code 4 none ∈ tb := tb_mem (List.mem_of_getElem? (i := 648) (by decide +kernel)) rfl
set_option maxRecDepth 20000 in
theorem tw_649 : Cond.methodLink "NestedDeeds$Walker" 72 ⟨"NestedDeeds$Walker", "bySteps", "()V"⟩ ∈ tb := tb_mem (List.mem_of_getElem? (i := 649) (by decide +kernel)) rfl
set_option maxRecDepth 20000 in
theorem tw_651 : Cond.instanceMethod ⟨"NestedDeeds$Walker", "bySteps", "()V"⟩ ∈ tb := tb_mem (List.mem_of_getElem? (i := 651) (by decide +kernel)) rfl
set_option maxRecDepth 20000 in
theorem tw_652 : Cond.code ⟨"NestedDeeds$Walker", "bySteps", "()V"⟩ prog_10_method_10_code 3 none ∈ tb := tb_mem (List.mem_of_getElem? (i := 652) (by decide +kernel)) rfl
set_option maxRecDepth 20000 in
theorem tw_653 : Cond.methodLink "NestedDeeds$Walker" 116 ⟨"NestedDeeds$Walker", "take", "(I)I"⟩ ∈ tb := tb_mem (List.mem_of_getElem? (i := 653) (by decide +kernel)) rfl
set_option maxRecDepth 20000 in
theorem tw_655 : Cond.instanceMethod ⟨"NestedDeeds$Walker", "take", "(I)I"⟩ ∈ tb := tb_mem (List.mem_of_getElem? (i := 655) (by decide +kernel)) rfl
set_option maxRecDepth 20000 in
theorem tw_656 : Cond.code ⟨"NestedDeeds$Walker", "take", "(I)I"⟩ prog_10_method_11_code 2 (some .int) ∈ tb := tb_mem (List.mem_of_getElem? (i := 656) (by decide +kernel)) rfl
set_option maxRecDepth 20000 in
theorem tw_657 : Cond.methodLink "NestedDeeds$Walker" 75 ⟨"java/lang/Math", "min", "(II)I"⟩ ∈ tb := tb_mem (List.mem_of_getElem? (i := 657) (by decide +kernel)) rfl
set_option maxRecDepth 20000 in
theorem tw_658 : Cond.static ⟨"java/lang/Math", "min", "(II)I"⟩ ∈ tb := tb_mem (List.mem_of_getElem? (i := 658) (by decide +kernel)) rfl
set_option maxRecDepth 20000 in
theorem tw_659 : Cond.code ⟨"java/lang/Math", "min", "(II)I"⟩ prog_16_method_69_code 2 (some .int) ∈ tb := tb_mem (List.mem_of_getElem? (i := 659) (by decide +kernel)) rfl
set_option maxRecDepth 20000 in
theorem tw_660 : Cond.methodLink "NestedDeeds$Walker" 81 ⟨"NestedDeeds$Walker", "byCalls", "(II)V"⟩ ∈ tb := tb_mem (List.mem_of_getElem? (i := 660) (by decide +kernel)) rfl
set_option maxRecDepth 20000 in
theorem tw_662 : Cond.instanceMethod ⟨"NestedDeeds$Walker", "byCalls", "(II)V"⟩ ∈ tb := tb_mem (List.mem_of_getElem? (i := 662) (by decide +kernel)) rfl
set_option maxRecDepth 20000 in
theorem tw_663 : Cond.code ⟨"NestedDeeds$Walker", "byCalls", "(II)V"⟩ prog_10_method_8_code 5 none ∈ tb := tb_mem (List.mem_of_getElem? (i := 663) (by decide +kernel)) rfl
set_option maxRecDepth 20000 in
theorem tw_664 : Cond.methodLink "NestedDeedsLaw" 48 ⟨"NestedDeeds", "depth", "(I)I"⟩ ∈ tb := tb_mem (List.mem_of_getElem? (i := 664) (by decide +kernel)) rfl
set_option maxRecDepth 20000 in
theorem tw_665 : Cond.instanceMethod ⟨"NestedDeeds", "depth", "(I)I"⟩ ∈ tb := tb_mem (List.mem_of_getElem? (i := 665) (by decide +kernel)) rfl
set_option maxRecDepth 20000 in
theorem tw_666 : Cond.selects "NestedDeeds" ⟨"NestedDeeds", "depth", "(I)I"⟩ ⟨"NestedDeeds", "depth", "(I)I"⟩ ∈ tb := tb_mem (List.mem_of_getElem? (i := 666) (by decide +kernel)) rfl
set_option maxRecDepth 20000 in
theorem tw_667 : Cond.code ⟨"NestedDeeds", "depth", "(I)I"⟩ prog_1_method_11_code 3 (some .int) ∈ tb := tb_mem (List.mem_of_getElem? (i := 667) (by decide +kernel)) rfl
set_option maxRecDepth 20000 in
theorem tw_668 : Cond.methodLink "NestedDeedsLaw" 52 ⟨"NestedDeeds", "worth", "(I)J"⟩ ∈ tb := tb_mem (List.mem_of_getElem? (i := 668) (by decide +kernel)) rfl
set_option maxRecDepth 20000 in
theorem tw_669 : Cond.instanceMethod ⟨"NestedDeeds", "worth", "(I)J"⟩ ∈ tb := tb_mem (List.mem_of_getElem? (i := 669) (by decide +kernel)) rfl
set_option maxRecDepth 20000 in
theorem tw_670 : Cond.selects "NestedDeeds" ⟨"NestedDeeds", "worth", "(I)J"⟩ ⟨"NestedDeeds", "worth", "(I)J"⟩ ∈ tb := tb_mem (List.mem_of_getElem? (i := 670) (by decide +kernel)) rfl
set_option maxRecDepth 20000 in
theorem tw_671 : Cond.code ⟨"NestedDeeds", "worth", "(I)J"⟩ prog_1_method_12_code 2 (some .long) ∈ tb := tb_mem (List.mem_of_getElem? (i := 671) (by decide +kernel)) rfl
set_option maxRecDepth 20000 in
theorem tw_672 : Cond.methodLink "NestedDeedsLaw" 57 ⟨"NestedDeeds", "mark", "(I)J"⟩ ∈ tb := tb_mem (List.mem_of_getElem? (i := 672) (by decide +kernel)) rfl
set_option maxRecDepth 20000 in
theorem tw_673 : Cond.instanceMethod ⟨"NestedDeeds", "mark", "(I)J"⟩ ∈ tb := tb_mem (List.mem_of_getElem? (i := 673) (by decide +kernel)) rfl
set_option maxRecDepth 20000 in
theorem tw_674 : Cond.selects "NestedDeeds" ⟨"NestedDeeds", "mark", "(I)J"⟩ ⟨"NestedDeeds", "mark", "(I)J"⟩ ∈ tb := tb_mem (List.mem_of_getElem? (i := 674) (by decide +kernel)) rfl
set_option maxRecDepth 20000 in
theorem tw_675 : Cond.code ⟨"NestedDeeds", "mark", "(I)J"⟩ prog_1_method_13_code 2 (some .long) ∈ tb := tb_mem (List.mem_of_getElem? (i := 675) (by decide +kernel)) rfl
set_option maxRecDepth 20000 in
theorem tw_676 : Cond.methodLink "NestedDeedsLaw" 61 ⟨"NestedDeeds", "alike", "(II)I"⟩ ∈ tb := tb_mem (List.mem_of_getElem? (i := 676) (by decide +kernel)) rfl
set_option maxRecDepth 20000 in
theorem tw_677 : Cond.instanceMethod ⟨"NestedDeeds", "alike", "(II)I"⟩ ∈ tb := tb_mem (List.mem_of_getElem? (i := 677) (by decide +kernel)) rfl
set_option maxRecDepth 20000 in
theorem tw_678 : Cond.selects "NestedDeeds" ⟨"NestedDeeds", "alike", "(II)I"⟩ ⟨"NestedDeeds", "alike", "(II)I"⟩ ∈ tb := tb_mem (List.mem_of_getElem? (i := 678) (by decide +kernel)) rfl
set_option maxRecDepth 20000 in
theorem tw_679 : Cond.code ⟨"NestedDeeds", "alike", "(II)I"⟩ prog_1_method_14_code 4 (some .int) ∈ tb := tb_mem (List.mem_of_getElem? (i := 679) (by decide +kernel)) rfl
set_option maxRecDepth 20000 in
theorem tw_680 : Cond.methodLink "NestedDeeds" 156 ⟨"NestedDeeds$Walker", "refuse", "()I"⟩ ∈ tb := tb_mem (List.mem_of_getElem? (i := 680) (by decide +kernel)) rfl
set_option maxRecDepth 20000 in
theorem tw_681 : Cond.methodLink "NestedDeeds" 160 ⟨"NestedDeeds$Comparing", "begin", "(I)V"⟩ ∈ tb := tb_mem (List.mem_of_getElem? (i := 681) (by decide +kernel)) rfl
set_option maxRecDepth 20000 in
theorem tw_682 : Cond.instanceMethod ⟨"NestedDeeds$Comparing", "begin", "(I)V"⟩ ∈ tb := tb_mem (List.mem_of_getElem? (i := 682) (by decide +kernel)) rfl
set_option maxRecDepth 20000 in
theorem tw_683 : Cond.selects "NestedDeeds$Comparing" ⟨"NestedDeeds$Comparing", "begin", "(I)V"⟩ ⟨"NestedDeeds$Comparing", "begin", "(I)V"⟩ ∈ tb := tb_mem (List.mem_of_getElem? (i := 683) (by decide +kernel)) rfl
set_option maxRecDepth 20000 in
theorem tw_684 : Cond.code ⟨"NestedDeeds$Comparing", "begin", "(I)V"⟩ prog_2_method_2_code 2 none ∈ tb := tb_mem (List.mem_of_getElem? (i := 684) (by decide +kernel)) rfl
set_option maxRecDepth 20000 in
theorem tw_685 : Cond.methodLink "NestedDeedsLaw" 65 ⟨"NestedDeeds", "write", "(I)I"⟩ ∈ tb := tb_mem (List.mem_of_getElem? (i := 685) (by decide +kernel)) rfl
set_option maxRecDepth 20000 in
theorem tw_686 : Cond.instanceMethod ⟨"NestedDeeds", "write", "(I)I"⟩ ∈ tb := tb_mem (List.mem_of_getElem? (i := 686) (by decide +kernel)) rfl
set_option maxRecDepth 20000 in
theorem tw_687 : Cond.selects "NestedDeeds" ⟨"NestedDeeds", "write", "(I)I"⟩ ⟨"NestedDeeds", "write", "(I)I"⟩ ∈ tb := tb_mem (List.mem_of_getElem? (i := 687) (by decide +kernel)) rfl
set_option maxRecDepth 20000 in
theorem tw_688 : Cond.code ⟨"NestedDeeds", "write", "(I)I"⟩ prog_1_method_15_code 3 (some .int) ∈ tb := tb_mem (List.mem_of_getElem? (i := 688) (by decide +kernel)) rfl
set_option maxRecDepth 20000 in
theorem tw_689 : Cond.methodLink "NestedDeeds" 168 ⟨"NestedDeeds$Paper", "clear", "()V"⟩ ∈ tb := tb_mem (List.mem_of_getElem? (i := 689) (by decide +kernel)) rfl
set_option maxRecDepth 20000 in
theorem tw_690 : Cond.instanceMethod ⟨"NestedDeeds$Paper", "clear", "()V"⟩ ∈ tb := tb_mem (List.mem_of_getElem? (i := 690) (by decide +kernel)) rfl
set_option maxRecDepth 20000 in
theorem tw_691 : Cond.selects "NestedDeeds$Paper" ⟨"NestedDeeds$Paper", "clear", "()V"⟩ ⟨"NestedDeeds$Paper", "clear", "()V"⟩ ∈ tb := tb_mem (List.mem_of_getElem? (i := 691) (by decide +kernel)) rfl
set_option maxRecDepth 20000 in
theorem tw_692 : Cond.code ⟨"NestedDeeds$Paper", "clear", "()V"⟩ prog_7_method_2_code 1 none ∈ tb := tb_mem (List.mem_of_getElem? (i := 692) (by decide +kernel)) rfl
set_option maxRecDepth 20000 in
theorem tw_693 : Cond.methodLink "NestedDeeds" 174 ⟨"NestedDeeds$Paper", "become", "(LNestedDeeds$Paper;)V"⟩ ∈ tb := tb_mem (List.mem_of_getElem? (i := 693) (by decide +kernel)) rfl
set_option maxRecDepth 20000 in
theorem tw_694 : Cond.instanceMethod ⟨"NestedDeeds$Paper", "become", "(LNestedDeeds$Paper;)V"⟩ ∈ tb := tb_mem (List.mem_of_getElem? (i := 694) (by decide +kernel)) rfl
set_option maxRecDepth 20000 in
theorem tw_695 : Cond.selects "NestedDeeds$Paper" ⟨"NestedDeeds$Paper", "become", "(LNestedDeeds$Paper;)V"⟩ ⟨"NestedDeeds$Paper", "become", "(LNestedDeeds$Paper;)V"⟩ ∈ tb := tb_mem (List.mem_of_getElem? (i := 695) (by decide +kernel)) rfl
set_option maxRecDepth 20000 in
theorem tw_696 : Cond.code ⟨"NestedDeeds$Paper", "become", "(LNestedDeeds$Paper;)V"⟩ prog_7_method_6_code 2 none ∈ tb := tb_mem (List.mem_of_getElem? (i := 696) (by decide +kernel)) rfl
set_option maxRecDepth 20000 in
theorem tw_697 : Cond.methodLink "NestedDeeds$Paper" 39 ⟨"java/lang/System", "arraycopy", "(Ljava/lang/Object;ILjava/lang/Object;II)V"⟩ ∈ tb := tb_mem (List.mem_of_getElem? (i := 697) (by decide +kernel)) rfl
set_option maxRecDepth 20000 in
theorem tw_698 : Cond.methodLink "NestedDeedsLaw" 69 ⟨"NestedDeeds", "find", "(III)I"⟩ ∈ tb := tb_mem (List.mem_of_getElem? (i := 698) (by decide +kernel)) rfl
set_option maxRecDepth 20000 in
theorem tw_699 : Cond.instanceMethod ⟨"NestedDeeds", "find", "(III)I"⟩ ∈ tb := tb_mem (List.mem_of_getElem? (i := 699) (by decide +kernel)) rfl
set_option maxRecDepth 20000 in
theorem tw_700 : Cond.selects "NestedDeeds" ⟨"NestedDeeds", "find", "(III)I"⟩ ⟨"NestedDeeds", "find", "(III)I"⟩ ∈ tb := tb_mem (List.mem_of_getElem? (i := 700) (by decide +kernel)) rfl
set_option maxRecDepth 20000 in
theorem tw_701 : Cond.code ⟨"NestedDeeds", "find", "(III)I"⟩ prog_1_method_16_code 5 (some .int) ∈ tb := tb_mem (List.mem_of_getElem? (i := 701) (by decide +kernel)) rfl
set_option maxRecDepth 20000 in
theorem tw_702 : Cond.methodLink "NestedDeeds" 181 ⟨"NestedDeeds$Finding", "begin", "(II)V"⟩ ∈ tb := tb_mem (List.mem_of_getElem? (i := 702) (by decide +kernel)) rfl
set_option maxRecDepth 20000 in
theorem tw_703 : Cond.instanceMethod ⟨"NestedDeeds$Finding", "begin", "(II)V"⟩ ∈ tb := tb_mem (List.mem_of_getElem? (i := 703) (by decide +kernel)) rfl
set_option maxRecDepth 20000 in
theorem tw_704 : Cond.selects "NestedDeeds$Finding" ⟨"NestedDeeds$Finding", "begin", "(II)V"⟩ ⟨"NestedDeeds$Finding", "begin", "(II)V"⟩ ∈ tb := tb_mem (List.mem_of_getElem? (i := 704) (by decide +kernel)) rfl
set_option maxRecDepth 20000 in
theorem tw_705 : Cond.code ⟨"NestedDeeds$Finding", "begin", "(II)V"⟩ prog_5_method_2_code 3 none ∈ tb := tb_mem (List.mem_of_getElem? (i := 705) (by decide +kernel)) rfl
set_option maxRecDepth 20000 in
theorem tw_706 : Cond.methodLink "NestedDeedsLaw" 74 ⟨"NestedDeeds", "widest", "(II)I"⟩ ∈ tb := tb_mem (List.mem_of_getElem? (i := 706) (by decide +kernel)) rfl
set_option maxRecDepth 20000 in
theorem tw_707 : Cond.instanceMethod ⟨"NestedDeeds", "widest", "(II)I"⟩ ∈ tb := tb_mem (List.mem_of_getElem? (i := 707) (by decide +kernel)) rfl
set_option maxRecDepth 20000 in
theorem tw_708 : Cond.selects "NestedDeeds" ⟨"NestedDeeds", "widest", "(II)I"⟩ ⟨"NestedDeeds", "widest", "(II)I"⟩ ∈ tb := tb_mem (List.mem_of_getElem? (i := 708) (by decide +kernel)) rfl
set_option maxRecDepth 20000 in
theorem tw_709 : Cond.code ⟨"NestedDeeds", "widest", "(II)I"⟩ prog_1_method_17_code 5 (some .int) ∈ tb := tb_mem (List.mem_of_getElem? (i := 709) (by decide +kernel)) rfl
set_option maxRecDepth 20000 in
theorem tw_710 : Cond.methodLink "NestedDeeds" 184 ⟨"NestedDeeds$Walker", "widestDepth", "()I"⟩ ∈ tb := tb_mem (List.mem_of_getElem? (i := 710) (by decide +kernel)) rfl
set_option maxRecDepth 20000 in
theorem tw_711 : Cond.instanceMethod ⟨"NestedDeeds$Walker", "widestDepth", "()I"⟩ ∈ tb := tb_mem (List.mem_of_getElem? (i := 711) (by decide +kernel)) rfl
set_option maxRecDepth 20000 in
theorem tw_712 : Cond.selects "NestedDeeds$Walker" ⟨"NestedDeeds$Walker", "widestDepth", "()I"⟩ ⟨"NestedDeeds$Walker", "widestDepth", "()I"⟩ ∈ tb := tb_mem (List.mem_of_getElem? (i := 712) (by decide +kernel)) rfl
set_option maxRecDepth 20000 in
theorem tw_713 : Cond.code ⟨"NestedDeeds$Walker", "widestDepth", "()I"⟩ prog_10_method_4_code 3 (some .int) ∈ tb := tb_mem (List.mem_of_getElem? (i := 713) (by decide +kernel)) rfl
set_option maxRecDepth 20000 in
theorem tw_714 : Cond.methodLink "NestedDeedsLaw" 78 ⟨"NestedDeeds", "copy", "(I)I"⟩ ∈ tb := tb_mem (List.mem_of_getElem? (i := 714) (by decide +kernel)) rfl
set_option maxRecDepth 20000 in
theorem tw_715 : Cond.instanceMethod ⟨"NestedDeeds", "copy", "(I)I"⟩ ∈ tb := tb_mem (List.mem_of_getElem? (i := 715) (by decide +kernel)) rfl
set_option maxRecDepth 20000 in
theorem tw_716 : Cond.selects "NestedDeeds" ⟨"NestedDeeds", "copy", "(I)I"⟩ ⟨"NestedDeeds", "copy", "(I)I"⟩ ∈ tb := tb_mem (List.mem_of_getElem? (i := 716) (by decide +kernel)) rfl
set_option maxRecDepth 20000 in
theorem tw_717 : Cond.code ⟨"NestedDeeds", "copy", "(I)I"⟩ prog_1_method_18_code 2 (some .int) ∈ tb := tb_mem (List.mem_of_getElem? (i := 717) (by decide +kernel)) rfl
set_option maxRecDepth 20000 in
theorem tw_718 : Cond.constant "NestedDeeds" 190 (2147483647 : Int32) ∈ tb := tb_mem (List.mem_of_getElem? (i := 718) (by decide +kernel)) rfl
set_option maxRecDepth 20000 in
theorem tw_719 : Cond.methodLink "NestedDeeds" 191 ⟨"NestedDeeds", "remake", "(IIZ)I"⟩ ∈ tb := tb_mem (List.mem_of_getElem? (i := 719) (by decide +kernel)) rfl
set_option maxRecDepth 20000 in
theorem tw_721 : Cond.instanceMethod ⟨"NestedDeeds", "remake", "(IIZ)I"⟩ ∈ tb := tb_mem (List.mem_of_getElem? (i := 721) (by decide +kernel)) rfl
set_option maxRecDepth 20000 in
theorem tw_722 : Cond.code ⟨"NestedDeeds", "remake", "(IIZ)I"⟩ prog_1_method_21_code 5 (some .int) ∈ tb := tb_mem (List.mem_of_getElem? (i := 722) (by decide +kernel)) rfl
set_option maxRecDepth 20000 in
theorem tw_723 : Cond.methodLink "NestedDeeds" 195 ⟨"NestedDeeds$Copying", "beginCounting", "(I)V"⟩ ∈ tb := tb_mem (List.mem_of_getElem? (i := 723) (by decide +kernel)) rfl
set_option maxRecDepth 20000 in
theorem tw_724 : Cond.instanceMethod ⟨"NestedDeeds$Copying", "beginCounting", "(I)V"⟩ ∈ tb := tb_mem (List.mem_of_getElem? (i := 724) (by decide +kernel)) rfl
set_option maxRecDepth 20000 in
theorem tw_725 : Cond.selects "NestedDeeds$Copying" ⟨"NestedDeeds$Copying", "beginCounting", "(I)V"⟩ ⟨"NestedDeeds$Copying", "beginCounting", "(I)V"⟩ ∈ tb := tb_mem (List.mem_of_getElem? (i := 725) (by decide +kernel)) rfl
set_option maxRecDepth 20000 in
theorem tw_726 : Cond.code ⟨"NestedDeeds$Copying", "beginCounting", "(I)V"⟩ prog_3_method_2_code 2 none ∈ tb := tb_mem (List.mem_of_getElem? (i := 726) (by decide +kernel)) rfl
set_option maxRecDepth 20000 in
theorem tw_727 : Cond.methodLink "NestedDeeds" 201 ⟨"NestedDeeds$Copying", "beginMaking", "(IZ)V"⟩ ∈ tb := tb_mem (List.mem_of_getElem? (i := 727) (by decide +kernel)) rfl
set_option maxRecDepth 20000 in
theorem tw_728 : Cond.instanceMethod ⟨"NestedDeeds$Copying", "beginMaking", "(IZ)V"⟩ ∈ tb := tb_mem (List.mem_of_getElem? (i := 728) (by decide +kernel)) rfl
set_option maxRecDepth 20000 in
theorem tw_729 : Cond.selects "NestedDeeds$Copying" ⟨"NestedDeeds$Copying", "beginMaking", "(IZ)V"⟩ ⟨"NestedDeeds$Copying", "beginMaking", "(IZ)V"⟩ ∈ tb := tb_mem (List.mem_of_getElem? (i := 729) (by decide +kernel)) rfl
set_option maxRecDepth 20000 in
theorem tw_730 : Cond.code ⟨"NestedDeeds$Copying", "beginMaking", "(IZ)V"⟩ prog_3_method_3_code 3 none ∈ tb := tb_mem (List.mem_of_getElem? (i := 730) (by decide +kernel)) rfl
set_option maxRecDepth 20000 in
theorem tw_731 : Cond.methodLink "NestedDeeds$Copying" 49 ⟨"NestedDeeds$Deeds", "allParts", "()I"⟩ ∈ tb := tb_mem (List.mem_of_getElem? (i := 731) (by decide +kernel)) rfl
set_option maxRecDepth 20000 in
theorem tw_732 : Cond.methodLink "NestedDeeds$Copying" 53 ⟨"java/lang/System", "arraycopy", "(Ljava/lang/Object;ILjava/lang/Object;II)V"⟩ ∈ tb := tb_mem (List.mem_of_getElem? (i := 732) (by decide +kernel)) rfl
set_option maxRecDepth 20000 in
theorem tw_733 : Cond.methodLink "NestedDeeds$Copying" 59 ⟨"NestedDeeds$Copying", "reckonMarks", "(I)V"⟩ ∈ tb := tb_mem (List.mem_of_getElem? (i := 733) (by decide +kernel)) rfl
set_option maxRecDepth 20000 in
theorem tw_735 : Cond.instanceMethod ⟨"NestedDeeds$Copying", "reckonMarks", "(I)V"⟩ ∈ tb := tb_mem (List.mem_of_getElem? (i := 735) (by decide +kernel)) rfl
set_option maxRecDepth 20000 in
theorem tw_736 : Cond.code ⟨"NestedDeeds$Copying", "reckonMarks", "(I)V"⟩ prog_3_method_4_code 6 none ∈ tb := tb_mem (List.mem_of_getElem? (i := 736) (by decide +kernel)) rfl
set_option maxRecDepth 20000 in
theorem tw_737 : Cond.methodLink "NestedDeeds$Copying" 69 ⟨"NestedDeeds$Marking", "begun", "(II)J"⟩ ∈ tb := tb_mem (List.mem_of_getElem? (i := 737) (by decide +kernel)) rfl
set_option maxRecDepth 20000 in
theorem tw_738 : Cond.methodLink "NestedDeeds$Copying" 78 ⟨"NestedDeeds$Marking", "with", "(JJ)J"⟩ ∈ tb := tb_mem (List.mem_of_getElem? (i := 738) (by decide +kernel)) rfl
set_option maxRecDepth 20000 in
theorem tw_739 : Cond.methodLink "NestedDeeds$Copying" 82 ⟨"NestedDeeds$Marking", "ended", "(J)J"⟩ ∈ tb := tb_mem (List.mem_of_getElem? (i := 739) (by decide +kernel)) rfl
set_option maxRecDepth 20000 in
theorem tw_740 : Cond.methodLink "NestedDeeds" 205 ⟨"NestedDeeds$Deeds", "takeBound", "()I"⟩ ∈ tb := tb_mem (List.mem_of_getElem? (i := 740) (by decide +kernel)) rfl
set_option maxRecDepth 20000 in
theorem tw_741 : Cond.instanceMethod ⟨"NestedDeeds$Deeds", "takeBound", "()I"⟩ ∈ tb := tb_mem (List.mem_of_getElem? (i := 741) (by decide +kernel)) rfl
set_option maxRecDepth 20000 in
theorem tw_742 : Cond.selects "NestedDeeds$Deeds" ⟨"NestedDeeds$Deeds", "takeBound", "()I"⟩ ⟨"NestedDeeds$Deeds", "takeBound", "()I"⟩ ∈ tb := tb_mem (List.mem_of_getElem? (i := 742) (by decide +kernel)) rfl
set_option maxRecDepth 20000 in
theorem tw_743 : Cond.code ⟨"NestedDeeds$Deeds", "takeBound", "()I"⟩ prog_4_method_10_code 1 (some .int) ∈ tb := tb_mem (List.mem_of_getElem? (i := 743) (by decide +kernel)) rfl
set_option maxRecDepth 20000 in
theorem tw_744 : Cond.methodLink "NestedDeedsLaw" 82 ⟨"NestedDeeds", "thin", "(II)I"⟩ ∈ tb := tb_mem (List.mem_of_getElem? (i := 744) (by decide +kernel)) rfl
set_option maxRecDepth 20000 in
theorem tw_745 : Cond.instanceMethod ⟨"NestedDeeds", "thin", "(II)I"⟩ ∈ tb := tb_mem (List.mem_of_getElem? (i := 745) (by decide +kernel)) rfl
set_option maxRecDepth 20000 in
theorem tw_746 : Cond.selects "NestedDeeds" ⟨"NestedDeeds", "thin", "(II)I"⟩ ⟨"NestedDeeds", "thin", "(II)I"⟩ ∈ tb := tb_mem (List.mem_of_getElem? (i := 746) (by decide +kernel)) rfl
set_option maxRecDepth 20000 in
theorem tw_747 : Cond.code ⟨"NestedDeeds", "thin", "(II)I"⟩ prog_1_method_19_code 3 (some .int) ∈ tb := tb_mem (List.mem_of_getElem? (i := 747) (by decide +kernel)) rfl
set_option maxRecDepth 20000 in
theorem tw_748 : Cond.methodLink "NestedDeedsLaw" 86 ⟨"NestedDeeds", "order", "(I)I"⟩ ∈ tb := tb_mem (List.mem_of_getElem? (i := 748) (by decide +kernel)) rfl
set_option maxRecDepth 20000 in
theorem tw_749 : Cond.instanceMethod ⟨"NestedDeeds", "order", "(I)I"⟩ ∈ tb := tb_mem (List.mem_of_getElem? (i := 749) (by decide +kernel)) rfl
set_option maxRecDepth 20000 in
theorem tw_750 : Cond.selects "NestedDeeds" ⟨"NestedDeeds", "order", "(I)I"⟩ ⟨"NestedDeeds", "order", "(I)I"⟩ ∈ tb := tb_mem (List.mem_of_getElem? (i := 750) (by decide +kernel)) rfl
set_option maxRecDepth 20000 in
theorem tw_751 : Cond.code ⟨"NestedDeeds", "order", "(I)I"⟩ prog_1_method_20_code 2 (some .int) ∈ tb := tb_mem (List.mem_of_getElem? (i := 751) (by decide +kernel)) rfl
set_option maxRecDepth 20000 in
theorem tw_752 : Cond.methodLink "NestedDeedsLaw" 92 ⟨"NestedDeeds", "feed", "(JI)I"⟩ ∈ tb := tb_mem (List.mem_of_getElem? (i := 752) (by decide +kernel)) rfl
set_option maxRecDepth 20000 in
theorem tw_753 : Cond.instanceMethod ⟨"NestedDeeds", "feed", "(JI)I"⟩ ∈ tb := tb_mem (List.mem_of_getElem? (i := 753) (by decide +kernel)) rfl
set_option maxRecDepth 20000 in
theorem tw_754 : Cond.selects "NestedDeeds" ⟨"NestedDeeds", "feed", "(JI)I"⟩ ⟨"NestedDeeds", "feed", "(JI)I"⟩ ∈ tb := tb_mem (List.mem_of_getElem? (i := 754) (by decide +kernel)) rfl
set_option maxRecDepth 20000 in
theorem tw_755 : Cond.code ⟨"NestedDeeds", "feed", "(JI)I"⟩ prog_1_method_22_code 5 (some .int) ∈ tb := tb_mem (List.mem_of_getElem? (i := 755) (by decide +kernel)) rfl
set_option maxRecDepth 20000 in
theorem tw_756 : Cond.methodLink "NestedDeeds" 208 ⟨"NestedDeeds$Paper", "add", "(I)V"⟩ ∈ tb := tb_mem (List.mem_of_getElem? (i := 756) (by decide +kernel)) rfl
set_option maxRecDepth 20000 in
theorem tw_757 : Cond.methodLink "NestedDeedsLaw" 97 ⟨"NestedDeeds", "tear", "()I"⟩ ∈ tb := tb_mem (List.mem_of_getElem? (i := 757) (by decide +kernel)) rfl
set_option maxRecDepth 20000 in
theorem tw_758 : Cond.instanceMethod ⟨"NestedDeeds", "tear", "()I"⟩ ∈ tb := tb_mem (List.mem_of_getElem? (i := 758) (by decide +kernel)) rfl
set_option maxRecDepth 20000 in
theorem tw_759 : Cond.selects "NestedDeeds" ⟨"NestedDeeds", "tear", "()I"⟩ ⟨"NestedDeeds", "tear", "()I"⟩ ∈ tb := tb_mem (List.mem_of_getElem? (i := 759) (by decide +kernel)) rfl
set_option maxRecDepth 20000 in
theorem tw_760 : Cond.code ⟨"NestedDeeds", "tear", "()I"⟩ prog_1_method_23_code 2 (some .int) ∈ tb := tb_mem (List.mem_of_getElem? (i := 760) (by decide +kernel)) rfl
set_option maxRecDepth 20000 in
theorem tw_761 : Cond.methodLink "NestedDeedsLaw" 102 ⟨"NestedDeeds", "byteAt", "(I)I"⟩ ∈ tb := tb_mem (List.mem_of_getElem? (i := 761) (by decide +kernel)) rfl
set_option maxRecDepth 20000 in
theorem tw_762 : Cond.instanceMethod ⟨"NestedDeeds", "byteAt", "(I)I"⟩ ∈ tb := tb_mem (List.mem_of_getElem? (i := 762) (by decide +kernel)) rfl
set_option maxRecDepth 20000 in
theorem tw_763 : Cond.selects "NestedDeeds" ⟨"NestedDeeds", "byteAt", "(I)I"⟩ ⟨"NestedDeeds", "byteAt", "(I)I"⟩ ∈ tb := tb_mem (List.mem_of_getElem? (i := 763) (by decide +kernel)) rfl
set_option maxRecDepth 20000 in
theorem tw_764 : Cond.code ⟨"NestedDeeds", "byteAt", "(I)I"⟩ prog_1_method_24_code 2 (some .int) ∈ tb := tb_mem (List.mem_of_getElem? (i := 764) (by decide +kernel)) rfl
set_option maxRecDepth 20000 in
theorem tw_765 : Cond.methodLink "NestedDeeds" 210 ⟨"NestedDeeds$Paper", "at", "(I)I"⟩ ∈ tb := tb_mem (List.mem_of_getElem? (i := 765) (by decide +kernel)) rfl
set_option maxRecDepth 20000 in
theorem tw_766 : Cond.instanceMethod ⟨"NestedDeeds$Paper", "at", "(I)I"⟩ ∈ tb := tb_mem (List.mem_of_getElem? (i := 766) (by decide +kernel)) rfl
set_option maxRecDepth 20000 in
theorem tw_767 : Cond.selects "NestedDeeds$Paper" ⟨"NestedDeeds$Paper", "at", "(I)I"⟩ ⟨"NestedDeeds$Paper", "at", "(I)I"⟩ ∈ tb := tb_mem (List.mem_of_getElem? (i := 767) (by decide +kernel)) rfl
set_option maxRecDepth 20000 in
theorem tw_768 : Cond.code ⟨"NestedDeeds$Paper", "at", "(I)I"⟩ prog_7_method_3_code 2 (some .int) ∈ tb := tb_mem (List.mem_of_getElem? (i := 768) (by decide +kernel)) rfl
set_option maxRecDepth 20000 in
theorem tw_769 : Cond.methodLink "NestedDeedsLaw" 106 ⟨"NestedDeeds", "read", "()I"⟩ ∈ tb := tb_mem (List.mem_of_getElem? (i := 769) (by decide +kernel)) rfl
set_option maxRecDepth 20000 in
theorem tw_770 : Cond.instanceMethod ⟨"NestedDeeds", "read", "()I"⟩ ∈ tb := tb_mem (List.mem_of_getElem? (i := 770) (by decide +kernel)) rfl
set_option maxRecDepth 20000 in
theorem tw_771 : Cond.selects "NestedDeeds" ⟨"NestedDeeds", "read", "()I"⟩ ⟨"NestedDeeds", "read", "()I"⟩ ∈ tb := tb_mem (List.mem_of_getElem? (i := 771) (by decide +kernel)) rfl
set_option maxRecDepth 20000 in
theorem tw_772 : Cond.code ⟨"NestedDeeds", "read", "()I"⟩ prog_1_method_25_code 2 (some .int) ∈ tb := tb_mem (List.mem_of_getElem? (i := 772) (by decide +kernel)) rfl
set_option maxRecDepth 20000 in
theorem tw_773 : Cond.methodLink "NestedDeeds" 213 ⟨"NestedDeeds$Reader", "scan", "(Z)I"⟩ ∈ tb := tb_mem (List.mem_of_getElem? (i := 773) (by decide +kernel)) rfl
set_option maxRecDepth 20000 in
theorem tw_774 : Cond.instanceMethod ⟨"NestedDeeds$Reader", "scan", "(Z)I"⟩ ∈ tb := tb_mem (List.mem_of_getElem? (i := 774) (by decide +kernel)) rfl
set_option maxRecDepth 20000 in
theorem tw_775 : Cond.selects "NestedDeeds$Reader" ⟨"NestedDeeds$Reader", "scan", "(Z)I"⟩ ⟨"NestedDeeds$Reader", "scan", "(Z)I"⟩ ∈ tb := tb_mem (List.mem_of_getElem? (i := 775) (by decide +kernel)) rfl
set_option maxRecDepth 20000 in
theorem tw_776 : Cond.code ⟨"NestedDeeds$Reader", "scan", "(Z)I"⟩ prog_8_method_2_code 3 (some .int) ∈ tb := tb_mem (List.mem_of_getElem? (i := 776) (by decide +kernel)) rfl
set_option maxRecDepth 20000 in
theorem tw_777 : Cond.methodLink "NestedDeeds$Reader" 43 ⟨"NestedDeeds$Reader", "scanKind", "()Z"⟩ ∈ tb := tb_mem (List.mem_of_getElem? (i := 777) (by decide +kernel)) rfl
set_option maxRecDepth 20000 in
theorem tw_779 : Cond.instanceMethod ⟨"NestedDeeds$Reader", "scanKind", "()Z"⟩ ∈ tb := tb_mem (List.mem_of_getElem? (i := 779) (by decide +kernel)) rfl
set_option maxRecDepth 20000 in
theorem tw_780 : Cond.code ⟨"NestedDeeds$Reader", "scanKind", "()Z"⟩ prog_8_method_3_code 1 (some .boolean) ∈ tb := tb_mem (List.mem_of_getElem? (i := 780) (by decide +kernel)) rfl
set_option maxRecDepth 20000 in
theorem tw_781 : Cond.methodLink "NestedDeeds$Reader" 50 ⟨"NestedDeeds$Paper", "at", "(I)I"⟩ ∈ tb := tb_mem (List.mem_of_getElem? (i := 781) (by decide +kernel)) rfl
set_option maxRecDepth 20000 in
theorem tw_783 : Cond.methodLink "NestedDeeds$Reader" 47 ⟨"NestedDeeds$Reader", "scanNumber", "()Z"⟩ ∈ tb := tb_mem (List.mem_of_getElem? (i := 783) (by decide +kernel)) rfl
set_option maxRecDepth 20000 in
theorem tw_785 : Cond.instanceMethod ⟨"NestedDeeds$Reader", "scanNumber", "()Z"⟩ ∈ tb := tb_mem (List.mem_of_getElem? (i := 785) (by decide +kernel)) rfl
set_option maxRecDepth 20000 in
theorem tw_786 : Cond.code ⟨"NestedDeeds$Reader", "scanNumber", "()Z"⟩ prog_8_method_4_code 7 (some .boolean) ∈ tb := tb_mem (List.mem_of_getElem? (i := 786) (by decide +kernel)) rfl
set_option maxRecDepth 20000 in
theorem tw_787 : Cond.methodLink "NestedDeeds$Reader" 78 ⟨"NestedDeeds$Reader", "isFigure", "(I)Z"⟩ ∈ tb := tb_mem (List.mem_of_getElem? (i := 787) (by decide +kernel)) rfl
set_option maxRecDepth 20000 in
theorem tw_788 : Cond.static ⟨"NestedDeeds$Reader", "isFigure", "(I)Z"⟩ ∈ tb := tb_mem (List.mem_of_getElem? (i := 788) (by decide +kernel)) rfl
set_option maxRecDepth 20000 in
theorem tw_789 : Cond.code ⟨"NestedDeeds$Reader", "isFigure", "(I)Z"⟩ prog_8_method_6_code 1 (some .boolean) ∈ tb := tb_mem (List.mem_of_getElem? (i := 789) (by decide +kernel)) rfl
set_option maxRecDepth 20000 in
theorem tw_790 : Cond.methodLink "NestedDeeds$Reader" 81 ⟨"NestedDeeds$Reader", "scanFigures", "()J"⟩ ∈ tb := tb_mem (List.mem_of_getElem? (i := 790) (by decide +kernel)) rfl
set_option maxRecDepth 20000 in
theorem tw_792 : Cond.instanceMethod ⟨"NestedDeeds$Reader", "scanFigures", "()J"⟩ ∈ tb := tb_mem (List.mem_of_getElem? (i := 792) (by decide +kernel)) rfl
set_option maxRecDepth 20000 in
theorem tw_793 : Cond.code ⟨"NestedDeeds$Reader", "scanFigures", "()J"⟩ prog_8_method_5_code 3 (some .long) ∈ tb := tb_mem (List.mem_of_getElem? (i := 793) (by decide +kernel)) rfl
set_option maxRecDepth 20000 in
theorem tw_794 : Cond.constantLong "NestedDeeds$Reader" 89 (10 : Int64) ∈ tb := tb_mem (List.mem_of_getElem? (i := 794) (by decide +kernel)) rfl
set_option maxRecDepth 20000 in
theorem tw_795 : Cond.constantLong "NestedDeeds$Reader" 91 (48 : Int64) ∈ tb := tb_mem (List.mem_of_getElem? (i := 795) (by decide +kernel)) rfl
set_option maxRecDepth 20000 in
theorem tw_796 : Cond.constantLong "NestedDeeds$Reader" 93 (1099511627776 : Int64) ∈ tb := tb_mem (List.mem_of_getElem? (i := 796) (by decide +kernel)) rfl
set_option maxRecDepth 20000 in
theorem tw_797 : Cond.methodLink "NestedDeeds$Reader" 95 ⟨"java/lang/Math", "min", "(JJ)J"⟩ ∈ tb := tb_mem (List.mem_of_getElem? (i := 797) (by decide +kernel)) rfl
set_option maxRecDepth 20000 in
theorem tw_798 : Cond.constantLong "NestedDeeds$Reader" 85 (-2147483648 : Int64) ∈ tb := tb_mem (List.mem_of_getElem? (i := 798) (by decide +kernel)) rfl
set_option maxRecDepth 20000 in
theorem tw_799 : Cond.constantLong "NestedDeeds$Reader" 87 (2147483647 : Int64) ∈ tb := tb_mem (List.mem_of_getElem? (i := 799) (by decide +kernel)) rfl
set_option maxRecDepth 20000 in
theorem tw_800 : Cond.methodLink "NestedDeeds$Reader" 55 ⟨"NestedDeeds$Reader", "openDeed", "()V"⟩ ∈ tb := tb_mem (List.mem_of_getElem? (i := 800) (by decide +kernel)) rfl
set_option maxRecDepth 20000 in
theorem tw_802 : Cond.instanceMethod ⟨"NestedDeeds$Reader", "openDeed", "()V"⟩ ∈ tb := tb_mem (List.mem_of_getElem? (i := 802) (by decide +kernel)) rfl
set_option maxRecDepth 20000 in
theorem tw_803 : Cond.code ⟨"NestedDeeds$Reader", "openDeed", "()V"⟩ prog_8_method_7_code 1 none ∈ tb := tb_mem (List.mem_of_getElem? (i := 803) (by decide +kernel)) rfl
set_option maxRecDepth 20000 in
theorem tw_804 : Cond.methodLink "NestedDeeds$Reader" 64 ⟨"NestedDeeds$Reader", "finishDeed", "(III)V"⟩ ∈ tb := tb_mem (List.mem_of_getElem? (i := 804) (by decide +kernel)) rfl
set_option maxRecDepth 20000 in
theorem tw_806 : Cond.instanceMethod ⟨"NestedDeeds$Reader", "finishDeed", "(III)V"⟩ ∈ tb := tb_mem (List.mem_of_getElem? (i := 806) (by decide +kernel)) rfl
set_option maxRecDepth 20000 in
theorem tw_807 : Cond.code ⟨"NestedDeeds$Reader", "finishDeed", "(III)V"⟩ prog_8_method_9_code 4 none ∈ tb := tb_mem (List.mem_of_getElem? (i := 807) (by decide +kernel)) rfl
set_option maxRecDepth 20000 in
theorem tw_808 : Cond.methodLink "NestedDeeds$Reader" 101 ⟨"NestedDeeds$Deeds", "bind", "(III)V"⟩ ∈ tb := tb_mem (List.mem_of_getElem? (i := 808) (by decide +kernel)) rfl
set_option maxRecDepth 20000 in
theorem tw_809 : Cond.methodLink "NestedDeeds$Reader" 68 ⟨"NestedDeeds$Reader", "closeDeeds", "()V"⟩ ∈ tb := tb_mem (List.mem_of_getElem? (i := 809) (by decide +kernel)) rfl
set_option maxRecDepth 20000 in
theorem tw_811 : Cond.instanceMethod ⟨"NestedDeeds$Reader", "closeDeeds", "()V"⟩ ∈ tb := tb_mem (List.mem_of_getElem? (i := 811) (by decide +kernel)) rfl
set_option maxRecDepth 20000 in
theorem tw_812 : Cond.code ⟨"NestedDeeds$Reader", "closeDeeds", "()V"⟩ prog_8_method_8_code 1 none ∈ tb := tb_mem (List.mem_of_getElem? (i := 812) (by decide +kernel)) rfl
set_option maxRecDepth 20000 in
theorem tw_813 : Cond.methodLink "NestedDeedsLaw" 110 ⟨"NestedDeeds", "answer", "()I"⟩ ∈ tb := tb_mem (List.mem_of_getElem? (i := 813) (by decide +kernel)) rfl
set_option maxRecDepth 20000 in
theorem tw_814 : Cond.instanceMethod ⟨"NestedDeeds", "answer", "()I"⟩ ∈ tb := tb_mem (List.mem_of_getElem? (i := 814) (by decide +kernel)) rfl
set_option maxRecDepth 20000 in
theorem tw_815 : Cond.selects "NestedDeeds" ⟨"NestedDeeds", "answer", "()I"⟩ ⟨"NestedDeeds", "answer", "()I"⟩ ∈ tb := tb_mem (List.mem_of_getElem? (i := 815) (by decide +kernel)) rfl
set_option maxRecDepth 20000 in
theorem tw_816 : Cond.code ⟨"NestedDeeds", "answer", "()I"⟩ prog_1_method_26_code 1 (some .int) ∈ tb := tb_mem (List.mem_of_getElem? (i := 816) (by decide +kernel)) rfl
set_option maxRecDepth 20000 in
theorem tw_817 : Cond.methodLink "NestedDeedsLaw" 114 ⟨"NestedDeeds", "count", "(I)I"⟩ ∈ tb := tb_mem (List.mem_of_getElem? (i := 817) (by decide +kernel)) rfl
set_option maxRecDepth 20000 in
theorem tw_818 : Cond.instanceMethod ⟨"NestedDeeds", "count", "(I)I"⟩ ∈ tb := tb_mem (List.mem_of_getElem? (i := 818) (by decide +kernel)) rfl
set_option maxRecDepth 20000 in
theorem tw_819 : Cond.selects "NestedDeeds" ⟨"NestedDeeds", "count", "(I)I"⟩ ⟨"NestedDeeds", "count", "(I)I"⟩ ∈ tb := tb_mem (List.mem_of_getElem? (i := 819) (by decide +kernel)) rfl
set_option maxRecDepth 20000 in
theorem tw_820 : Cond.code ⟨"NestedDeeds", "count", "(I)I"⟩ prog_1_method_27_code 2 (some .int) ∈ tb := tb_mem (List.mem_of_getElem? (i := 820) (by decide +kernel)) rfl
set_option maxRecDepth 20000 in
theorem tw_821 : Cond.methodLink "NestedDeeds" 226 ⟨"NestedDeeds$Deeds", "allParts", "()I"⟩ ∈ tb := tb_mem (List.mem_of_getElem? (i := 821) (by decide +kernel)) rfl
set_option maxRecDepth 20000 in
theorem tw_822 : Cond.classLink "NestedDeedsLaw" 10 "NestedDeedsModel" ∈ tb := tb_mem (List.mem_of_getElem? (i := 822) (by decide +kernel)) rfl
set_option maxRecDepth 20000 in
theorem tw_823 : Cond.instantiable "NestedDeedsModel" 41 ∈ tb := tb_mem (List.mem_of_getElem? (i := 823) (by decide +kernel)) rfl
set_option maxRecDepth 20000 in
theorem tw_824 : Cond.methodLink "NestedDeedsLaw" 12 ⟨"NestedDeedsModel", "<init>", "()V"⟩ ∈ tb := tb_mem (List.mem_of_getElem? (i := 824) (by decide +kernel)) rfl
set_option maxRecDepth 20000 in
theorem tw_825 : Cond.instanceMethod ⟨"NestedDeedsModel", "<init>", "()V"⟩ ∈ tb := tb_mem (List.mem_of_getElem? (i := 825) (by decide +kernel)) rfl
set_option maxRecDepth 20000 in
theorem tw_826 : Cond.code ⟨"NestedDeedsModel", "<init>", "()V"⟩ prog_14_method_1_code 1 none ∈ tb := tb_mem (List.mem_of_getElem? (i := 826) (by decide +kernel)) rfl
set_option maxRecDepth 20000 in
theorem tw_827 : Cond.methodLink "NestedDeedsModel" 1 ⟨"java/lang/Object", "<init>", "()V"⟩ ∈ tb := tb_mem (List.mem_of_getElem? (i := 827) (by decide +kernel)) rfl
set_option maxRecDepth 20000 in
theorem tw_828 : Cond.fieldLink "NestedDeedsModel" 90 "NestedDeedsModel" "deeds" "I" ∈ tb := tb_mem (List.mem_of_getElem? (i := 828) (by decide +kernel)) rfl
set_option maxRecDepth 20000 in
theorem tw_829 : Cond.fieldLink "NestedDeedsModel" 7 "NestedDeedsModel" "kind" "[I" ∈ tb := tb_mem (List.mem_of_getElem? (i := 829) (by decide +kernel)) rfl
set_option maxRecDepth 20000 in
theorem tw_830 : Cond.fieldLink "NestedDeedsModel" 13 "NestedDeedsModel" "number" "[I" ∈ tb := tb_mem (List.mem_of_getElem? (i := 830) (by decide +kernel)) rfl
set_option maxRecDepth 20000 in
theorem tw_831 : Cond.fieldLink "NestedDeedsModel" 16 "NestedDeedsModel" "partMany" "[I" ∈ tb := tb_mem (List.mem_of_getElem? (i := 831) (by decide +kernel)) rfl
set_option maxRecDepth 20000 in
theorem tw_832 : Cond.fieldLink "NestedDeedsModel" 19 "NestedDeedsModel" "firstPart" "[I" ∈ tb := tb_mem (List.mem_of_getElem? (i := 832) (by decide +kernel)) rfl
set_option maxRecDepth 20000 in
theorem tw_833 : Cond.fieldLink "NestedDeedsModel" 22 "NestedDeedsModel" "lastPart" "[I" ∈ tb := tb_mem (List.mem_of_getElem? (i := 833) (by decide +kernel)) rfl
set_option maxRecDepth 20000 in
theorem tw_834 : Cond.fieldLink "NestedDeedsModel" 97 "NestedDeedsModel" "parts" "I" ∈ tb := tb_mem (List.mem_of_getElem? (i := 834) (by decide +kernel)) rfl
set_option maxRecDepth 20000 in
theorem tw_835 : Cond.fieldLink "NestedDeedsModel" 25 "NestedDeedsModel" "partOf" "[I" ∈ tb := tb_mem (List.mem_of_getElem? (i := 835) (by decide +kernel)) rfl
set_option maxRecDepth 20000 in
theorem tw_836 : Cond.fieldLink "NestedDeedsModel" 28 "NestedDeedsModel" "nextPart" "[I" ∈ tb := tb_mem (List.mem_of_getElem? (i := 836) (by decide +kernel)) rfl
set_option maxRecDepth 20000 in
theorem tw_837 : Cond.fieldLink "NestedDeedsModel" 111 "NestedDeedsModel" "way" "I" ∈ tb := tb_mem (List.mem_of_getElem? (i := 837) (by decide +kernel)) rfl
set_option maxRecDepth 20000 in
theorem tw_838 : Cond.fieldLink "NestedDeedsModel" 31 "NestedDeedsModel" "meter" "I" ∈ tb := tb_mem (List.mem_of_getElem? (i := 838) (by decide +kernel)) rfl
set_option maxRecDepth 20000 in
theorem tw_839 : Cond.fieldLink "NestedDeedsModel" 35 "NestedDeedsModel" "paper" "[I" ∈ tb := tb_mem (List.mem_of_getElem? (i := 839) (by decide +kernel)) rfl
set_option maxRecDepth 20000 in
theorem tw_840 : Cond.fieldLink "NestedDeedsModel" 212 "NestedDeedsModel" "paperSize" "I" ∈ tb := tb_mem (List.mem_of_getElem? (i := 840) (by decide +kernel)) rfl
set_option maxRecDepth 20000 in
theorem tw_841 : Cond.fieldLink "NestedDeedsModel" 154 "NestedDeedsModel" "answer" "I" ∈ tb := tb_mem (List.mem_of_getElem? (i := 841) (by decide +kernel)) rfl
