theorem tw_566 : (Cond.instanceMethod ({ cls := "LoafFall", name := "step", desc := "(II)I" } : Jvm.MethodName)) ∈ a_gw := a_gwI 566 (by decide +kernel) rfl
theorem tw_567 : (Cond.selects "LoafFall" ({ cls := "LoafFall", name := "step", desc := "(II)I" } : Jvm.MethodName) ({ cls := "LoafFall", name := "step", desc := "(II)I" } : Jvm.MethodName)) ∈ a_gw := a_gwI 567 (by decide +kernel) rfl
theorem tw_568 : (Cond.code ({ cls := "LoafFall", name := "step", desc := "(II)I" } : Jvm.MethodName) prog_1_method_14_code (3 : Nat) (Option.some Jvm.ClassFile.FieldType.int)) ∈ a_gw := a_gwI 568 (by decide +kernel) rfl
theorem tw_569 : (Cond.methodLink "LoafFall" (191 : Nat) ({ cls := "LoafFall$Doing", name := "warmthAndTurns", desc := "(I)I" } : Jvm.MethodName)) ∈ a_gw := a_gwI 569 (by decide +kernel) rfl
theorem tw_570 : (Cond.instanceMethod ({ cls := "LoafFall$Doing", name := "warmthAndTurns", desc := "(I)I" } : Jvm.MethodName)) ∈ a_gw := a_gwI 570 (by decide +kernel) rfl
theorem tw_571 : (Cond.selects "LoafFall$Doing" ({ cls := "LoafFall$Doing", name := "warmthAndTurns", desc := "(I)I" } : Jvm.MethodName) ({ cls := "LoafFall$Doing", name := "warmthAndTurns", desc := "(I)I" } : Jvm.MethodName)) ∈ a_gw := a_gwI 571 (by decide +kernel) rfl
theorem tw_572 : (Cond.code ({ cls := "LoafFall$Doing", name := "warmthAndTurns", desc := "(I)I" } : Jvm.MethodName) prog_3_method_5_code (2 : Nat) (Option.some Jvm.ClassFile.FieldType.int)) ∈ a_gw := a_gwI 572 (by decide +kernel) rfl
theorem tw_573 : (Cond.methodLink "LoafFallLaw" (70 : Nat) ({ cls := "LoafFall", name := "loaf", desc := "(II)I" } : Jvm.MethodName)) ∈ a_gw := a_gwI 573 (by decide +kernel) rfl
theorem tw_574 : (Cond.instanceMethod ({ cls := "LoafFall", name := "loaf", desc := "(II)I" } : Jvm.MethodName)) ∈ a_gw := a_gwI 574 (by decide +kernel) rfl
theorem tw_575 : (Cond.selects "LoafFall" ({ cls := "LoafFall", name := "loaf", desc := "(II)I" } : Jvm.MethodName) ({ cls := "LoafFall", name := "loaf", desc := "(II)I" } : Jvm.MethodName)) ∈ a_gw := a_gwI 575 (by decide +kernel) rfl
theorem tw_576 : (Cond.code ({ cls := "LoafFall", name := "loaf", desc := "(II)I" } : Jvm.MethodName) prog_1_method_15_code (3 : Nat) (Option.some Jvm.ClassFile.FieldType.int)) ∈ a_gw := a_gwI 576 (by decide +kernel) rfl
theorem tw_577 : (Cond.methodLink "LoafFall" (200 : Nat) ({ cls := "LoafFall$Loaf", name := "start", desc := "(LLoafFall$Flour;LLoafFall$Doing;)V" } : Jvm.MethodName)) ∈ a_gw := a_gwI 577 (by decide +kernel) rfl
theorem tw_578 : (Cond.instanceMethod ({ cls := "LoafFall$Loaf", name := "start", desc := "(LLoafFall$Flour;LLoafFall$Doing;)V" } : Jvm.MethodName)) ∈ a_gw := a_gwI 578 (by decide +kernel) rfl
theorem tw_579 : (Cond.selects "LoafFall$Loaf" ({ cls := "LoafFall$Loaf", name := "start", desc := "(LLoafFall$Flour;LLoafFall$Doing;)V" } : Jvm.MethodName) ({ cls := "LoafFall$Loaf", name := "start", desc := "(LLoafFall$Flour;LLoafFall$Doing;)V" } : Jvm.MethodName)) ∈ a_gw := a_gwI 579 (by decide +kernel) rfl
theorem tw_580 : (Cond.code ({ cls := "LoafFall$Loaf", name := "start", desc := "(LLoafFall$Flour;LLoafFall$Doing;)V" } : Jvm.MethodName) prog_8_method_2_code (3 : Nat) (Option.none : Option Jvm.ClassFile.FieldType)) ∈ a_gw := a_gwI 580 (by decide +kernel) rfl
theorem tw_581 : (Cond.methodLink "LoafFall$Loaf" (39 : Nat) ({ cls := "LoafFall$Flour", name := "take", desc := "(LLoafFall$Flour;)V" } : Jvm.MethodName)) ∈ a_gw := a_gwI 581 (by decide +kernel) rfl
theorem tw_582 : (Cond.methodLink "LoafFall$Loaf" (43 : Nat) ({ cls := "LoafFall$Doing", name := "take", desc := "(LLoafFall$Doing;)V" } : Jvm.MethodName)) ∈ a_gw := a_gwI 582 (by decide +kernel) rfl
theorem tw_583 : (Cond.methodLink "LoafFall$Loaf" (50 : Nat) ({ cls := "LoafFall$Dough", name := "start", desc := "(I)V" } : Jvm.MethodName)) ∈ a_gw := a_gwI 583 (by decide +kernel) rfl
theorem tw_584 : (Cond.instanceMethod ({ cls := "LoafFall$Dough", name := "start", desc := "(I)V" } : Jvm.MethodName)) ∈ a_gw := a_gwI 584 (by decide +kernel) rfl
theorem tw_585 : (Cond.selects "LoafFall$Dough" ({ cls := "LoafFall$Dough", name := "start", desc := "(I)V" } : Jvm.MethodName) ({ cls := "LoafFall$Dough", name := "start", desc := "(I)V" } : Jvm.MethodName)) ∈ a_gw := a_gwI 585 (by decide +kernel) rfl
theorem tw_586 : (Cond.code ({ cls := "LoafFall$Dough", name := "start", desc := "(I)V" } : Jvm.MethodName) prog_4_method_2_code (3 : Nat) (Option.none : Option Jvm.ClassFile.FieldType)) ∈ a_gw := a_gwI 586 (by decide +kernel) rfl
theorem tw_587 : (Cond.methodLink "LoafFall" (207 : Nat) ({ cls := "LoafFall$Doing", name := "turnsInAll", desc := "()I" } : Jvm.MethodName)) ∈ a_gw := a_gwI 587 (by decide +kernel) rfl
theorem tw_588 : (Cond.methodLink "LoafFallLaw" (74 : Nat) ({ cls := "LoafFall", name := "go", desc := "(I)I" } : Jvm.MethodName)) ∈ a_gw := a_gwI 588 (by decide +kernel) rfl
theorem tw_589 : (Cond.instanceMethod ({ cls := "LoafFall", name := "go", desc := "(I)I" } : Jvm.MethodName)) ∈ a_gw := a_gwI 589 (by decide +kernel) rfl
theorem tw_590 : (Cond.selects "LoafFall" ({ cls := "LoafFall", name := "go", desc := "(I)I" } : Jvm.MethodName) ({ cls := "LoafFall", name := "go", desc := "(I)I" } : Jvm.MethodName)) ∈ a_gw := a_gwI 590 (by decide +kernel) rfl
theorem tw_591 : (Cond.code ({ cls := "LoafFall", name := "go", desc := "(I)I" } : Jvm.MethodName) prog_1_method_16_code (3 : Nat) (Option.some Jvm.ClassFile.FieldType.int)) ∈ a_gw := a_gwI 591 (by decide +kernel) rfl
theorem tw_592 : (Cond.methodLink "LoafFall" (221 : Nat) ({ cls := "LoafFall$Loaf", name := "passTurn", desc := "()V" } : Jvm.MethodName)) ∈ a_gw := a_gwI 592 (by decide +kernel) rfl
theorem tw_593 : (Cond.instanceMethod ({ cls := "LoafFall$Loaf", name := "passTurn", desc := "()V" } : Jvm.MethodName)) ∈ a_gw := a_gwI 593 (by decide +kernel) rfl
theorem tw_594 : (Cond.selects "LoafFall$Loaf" ({ cls := "LoafFall$Loaf", name := "passTurn", desc := "()V" } : Jvm.MethodName) ({ cls := "LoafFall$Loaf", name := "passTurn", desc := "()V" } : Jvm.MethodName)) ∈ a_gw := a_gwI 594 (by decide +kernel) rfl
theorem tw_595 : (Cond.code ({ cls := "LoafFall$Loaf", name := "passTurn", desc := "()V" } : Jvm.MethodName) prog_8_method_5_code (2 : Nat) (Option.none : Option Jvm.ClassFile.FieldType)) ∈ a_gw := a_gwI 595 (by decide +kernel) rfl
theorem tw_596 : (Cond.methodLink "LoafFall$Loaf" (78 : Nat) ({ cls := "LoafFall$Doing", name := "lasts", desc := "(I)Z" } : Jvm.MethodName)) ∈ a_gw := a_gwI 596 (by decide +kernel) rfl
theorem tw_597 : (Cond.instanceMethod ({ cls := "LoafFall$Doing", name := "lasts", desc := "(I)Z" } : Jvm.MethodName)) ∈ a_gw := a_gwI 597 (by decide +kernel) rfl
theorem tw_598 : (Cond.selects "LoafFall$Doing" ({ cls := "LoafFall$Doing", name := "lasts", desc := "(I)Z" } : Jvm.MethodName) ({ cls := "LoafFall$Doing", name := "lasts", desc := "(I)Z" } : Jvm.MethodName)) ∈ a_gw := a_gwI 598 (by decide +kernel) rfl
theorem tw_599 : (Cond.code ({ cls := "LoafFall$Doing", name := "lasts", desc := "(I)Z" } : Jvm.MethodName) prog_3_method_6_code (2 : Nat) (Option.some Jvm.ClassFile.FieldType.boolean)) ∈ a_gw := a_gwI 599 (by decide +kernel) rfl
theorem tw_600 : (Cond.methodLink "LoafFall$Loaf" (85 : Nat) ({ cls := "LoafFall$Loaf", name := "handle", desc := "(I)V" } : Jvm.MethodName)) ∈ a_gw := a_gwI 600 (by decide +kernel) rfl
theorem tw_602 : (Cond.instanceMethod ({ cls := "LoafFall$Loaf", name := "handle", desc := "(I)V" } : Jvm.MethodName)) ∈ a_gw := a_gwI 602 (by decide +kernel) rfl
theorem tw_603 : (Cond.code ({ cls := "LoafFall$Loaf", name := "handle", desc := "(I)V" } : Jvm.MethodName) prog_8_method_8_code (2 : Nat) (Option.none : Option Jvm.ClassFile.FieldType)) ∈ a_gw := a_gwI 603 (by decide +kernel) rfl
theorem tw_604 : (Cond.methodLink "LoafFall$Loaf" (124 : Nat) ({ cls := "LoafFall$Dough", name := "knead", desc := "()V" } : Jvm.MethodName)) ∈ a_gw := a_gwI 604 (by decide +kernel) rfl
theorem tw_605 : (Cond.instanceMethod ({ cls := "LoafFall$Dough", name := "knead", desc := "()V" } : Jvm.MethodName)) ∈ a_gw := a_gwI 605 (by decide +kernel) rfl
theorem tw_606 : (Cond.selects "LoafFall$Dough" ({ cls := "LoafFall$Dough", name := "knead", desc := "()V" } : Jvm.MethodName) ({ cls := "LoafFall$Dough", name := "knead", desc := "()V" } : Jvm.MethodName)) ∈ a_gw := a_gwI 606 (by decide +kernel) rfl
theorem tw_607 : (Cond.code ({ cls := "LoafFall$Dough", name := "knead", desc := "()V" } : Jvm.MethodName) prog_4_method_13_code (2 : Nat) (Option.none : Option Jvm.ClassFile.FieldType)) ∈ a_gw := a_gwI 607 (by decide +kernel) rfl
theorem tw_608 : (Cond.methodLink "LoafFall$Dough" (74 : Nat) ({ cls := "java/lang/Math", name := "min", desc := "(II)I" } : Jvm.MethodName)) ∈ a_gw := a_gwI 608 (by decide +kernel) rfl
theorem tw_609 : (Cond.methodLink "LoafFall$Loaf" (127 : Nat) ({ cls := "LoafFall$Loaf", name := "knockDown", desc := "()V" } : Jvm.MethodName)) ∈ a_gw := a_gwI 609 (by decide +kernel) rfl
theorem tw_611 : (Cond.instanceMethod ({ cls := "LoafFall$Loaf", name := "knockDown", desc := "()V" } : Jvm.MethodName)) ∈ a_gw := a_gwI 611 (by decide +kernel) rfl
theorem tw_612 : (Cond.code ({ cls := "LoafFall$Loaf", name := "knockDown", desc := "()V" } : Jvm.MethodName) prog_8_method_11_code (3 : Nat) (Option.none : Option Jvm.ClassFile.FieldType)) ∈ a_gw := a_gwI 612 (by decide +kernel) rfl
theorem tw_613 : (Cond.methodLink "LoafFall$Loaf" (145 : Nat) ({ cls := "LoafFall$Loaf", name := "tearAs", desc := "(III)V" } : Jvm.MethodName)) ∈ a_gw := a_gwI 613 (by decide +kernel) rfl
theorem tw_615 : (Cond.instanceMethod ({ cls := "LoafFall$Loaf", name := "tearAs", desc := "(III)V" } : Jvm.MethodName)) ∈ a_gw := a_gwI 615 (by decide +kernel) rfl
theorem tw_616 : (Cond.code ({ cls := "LoafFall$Loaf", name := "tearAs", desc := "(III)V" } : Jvm.MethodName) prog_8_method_12_code (4 : Nat) (Option.none : Option Jvm.ClassFile.FieldType)) ∈ a_gw := a_gwI 616 (by decide +kernel) rfl
theorem tw_617 : (Cond.methodLink "LoafFall$Loaf" (152 : Nat) ({ cls := "LoafFall$Falls", name := "note", desc := "(LLoafFall$Dough;III)V" } : Jvm.MethodName)) ∈ a_gw := a_gwI 617 (by decide +kernel) rfl
theorem tw_618 : (Cond.instanceMethod ({ cls := "LoafFall$Falls", name := "note", desc := "(LLoafFall$Dough;III)V" } : Jvm.MethodName)) ∈ a_gw := a_gwI 618 (by decide +kernel) rfl
theorem tw_619 : (Cond.selects "LoafFall$Falls" ({ cls := "LoafFall$Falls", name := "note", desc := "(LLoafFall$Dough;III)V" } : Jvm.MethodName) ({ cls := "LoafFall$Falls", name := "note", desc := "(LLoafFall$Dough;III)V" } : Jvm.MethodName)) ∈ a_gw := a_gwI 619 (by decide +kernel) rfl
theorem tw_620 : (Cond.code ({ cls := "LoafFall$Falls", name := "note", desc := "(LLoafFall$Dough;III)V" } : Jvm.MethodName) prog_5_method_3_code (6 : Nat) (Option.none : Option Jvm.ClassFile.FieldType)) ∈ a_gw := a_gwI 620 (by decide +kernel) rfl
theorem tw_621 : (Cond.methodLink "LoafFall$Loaf" (156 : Nat) ({ cls := "LoafFall$Dough", name := "tearOpen", desc := "(I)V" } : Jvm.MethodName)) ∈ a_gw := a_gwI 621 (by decide +kernel) rfl
theorem tw_622 : (Cond.instanceMethod ({ cls := "LoafFall$Dough", name := "tearOpen", desc := "(I)V" } : Jvm.MethodName)) ∈ a_gw := a_gwI 622 (by decide +kernel) rfl
theorem tw_623 : (Cond.selects "LoafFall$Dough" ({ cls := "LoafFall$Dough", name := "tearOpen", desc := "(I)V" } : Jvm.MethodName) ({ cls := "LoafFall$Dough", name := "tearOpen", desc := "(I)V" } : Jvm.MethodName)) ∈ a_gw := a_gwI 623 (by decide +kernel) rfl
theorem tw_624 : (Cond.code ({ cls := "LoafFall$Dough", name := "tearOpen", desc := "(I)V" } : Jvm.MethodName) prog_4_method_15_code (3 : Nat) (Option.none : Option Jvm.ClassFile.FieldType)) ∈ a_gw := a_gwI 624 (by decide +kernel) rfl
theorem tw_625 : (Cond.methodLink "LoafFall$Loaf" (130 : Nat) ({ cls := "LoafFall$Dough", name := "openDoor", desc := "()V" } : Jvm.MethodName)) ∈ a_gw := a_gwI 625 (by decide +kernel) rfl
theorem tw_626 : (Cond.instanceMethod ({ cls := "LoafFall$Dough", name := "openDoor", desc := "()V" } : Jvm.MethodName)) ∈ a_gw := a_gwI 626 (by decide +kernel) rfl
theorem tw_627 : (Cond.selects "LoafFall$Dough" ({ cls := "LoafFall$Dough", name := "openDoor", desc := "()V" } : Jvm.MethodName) ({ cls := "LoafFall$Dough", name := "openDoor", desc := "()V" } : Jvm.MethodName)) ∈ a_gw := a_gwI 627 (by decide +kernel) rfl
theorem tw_628 : (Cond.code ({ cls := "LoafFall$Dough", name := "openDoor", desc := "()V" } : Jvm.MethodName) prog_4_method_14_code (2 : Nat) (Option.none : Option Jvm.ClassFile.FieldType)) ∈ a_gw := a_gwI 628 (by decide +kernel) rfl
theorem tw_629 : (Cond.methodLink "LoafFall$Dough" (54 : Nat) ({ cls := "java/lang/Math", name := "max", desc := "(II)I" } : Jvm.MethodName)) ∈ a_gw := a_gwI 629 (by decide +kernel) rfl
theorem tw_630 : (Cond.methodLink "LoafFall$Loaf" (88 : Nat) ({ cls := "LoafFall$Loaf", name := "turnBy", desc := "(IZ)V" } : Jvm.MethodName)) ∈ a_gw := a_gwI 630 (by decide +kernel) rfl
theorem tw_631 : (Cond.instanceMethod ({ cls := "LoafFall$Loaf", name := "turnBy", desc := "(IZ)V" } : Jvm.MethodName)) ∈ a_gw := a_gwI 631 (by decide +kernel) rfl
theorem tw_632 : (Cond.selects "LoafFall$Loaf" ({ cls := "LoafFall$Loaf", name := "turnBy", desc := "(IZ)V" } : Jvm.MethodName) ({ cls := "LoafFall$Loaf", name := "turnBy", desc := "(IZ)V" } : Jvm.MethodName)) ∈ a_gw := a_gwI 632 (by decide +kernel) rfl
theorem tw_633 : (Cond.code ({ cls := "LoafFall$Loaf", name := "turnBy", desc := "(IZ)V" } : Jvm.MethodName) prog_8_method_7_code (3 : Nat) (Option.none : Option Jvm.ClassFile.FieldType)) ∈ a_gw := a_gwI 633 (by decide +kernel) rfl
theorem tw_634 : (Cond.methodLink "LoafFall$Loaf" (105 : Nat) ({ cls := "LoafFall$Dough", name := "warmBy", desc := "(I)V" } : Jvm.MethodName)) ∈ a_gw := a_gwI 634 (by decide +kernel) rfl
theorem tw_635 : (Cond.instanceMethod ({ cls := "LoafFall$Dough", name := "warmBy", desc := "(I)V" } : Jvm.MethodName)) ∈ a_gw := a_gwI 635 (by decide +kernel) rfl
theorem tw_636 : (Cond.selects "LoafFall$Dough" ({ cls := "LoafFall$Dough", name := "warmBy", desc := "(I)V" } : Jvm.MethodName) ({ cls := "LoafFall$Dough", name := "warmBy", desc := "(I)V" } : Jvm.MethodName)) ∈ a_gw := a_gwI 636 (by decide +kernel) rfl
theorem tw_637 : (Cond.code ({ cls := "LoafFall$Dough", name := "warmBy", desc := "(I)V" } : Jvm.MethodName) prog_4_method_11_code (6 : Nat) (Option.none : Option Jvm.ClassFile.FieldType)) ∈ a_gw := a_gwI 637 (by decide +kernel) rfl
theorem tw_638 : (Cond.methodLink "LoafFall$Loaf" (108 : Nat) ({ cls := "LoafFall$Dough", name := "ripen", desc := "(LLoafFall$Flour;)V" } : Jvm.MethodName)) ∈ a_gw := a_gwI 638 (by decide +kernel) rfl
theorem tw_639 : (Cond.instanceMethod ({ cls := "LoafFall$Dough", name := "ripen", desc := "(LLoafFall$Flour;)V" } : Jvm.MethodName)) ∈ a_gw := a_gwI 639 (by decide +kernel) rfl
theorem tw_640 : (Cond.selects "LoafFall$Dough" ({ cls := "LoafFall$Dough", name := "ripen", desc := "(LLoafFall$Flour;)V" } : Jvm.MethodName) ({ cls := "LoafFall$Dough", name := "ripen", desc := "(LLoafFall$Flour;)V" } : Jvm.MethodName)) ∈ a_gw := a_gwI 640 (by decide +kernel) rfl
theorem tw_641 : (Cond.code ({ cls := "LoafFall$Dough", name := "ripen", desc := "(LLoafFall$Flour;)V" } : Jvm.MethodName) prog_4_method_12_code (8 : Nat) (Option.none : Option Jvm.ClassFile.FieldType)) ∈ a_gw := a_gwI 641 (by decide +kernel) rfl
theorem tw_642 : (Cond.methodLink "LoafFall$Loaf" (111 : Nat) ({ cls := "LoafFall$Loaf", name := "tearOverfull", desc := "(Z)V" } : Jvm.MethodName)) ∈ a_gw := a_gwI 642 (by decide +kernel) rfl
theorem tw_644 : (Cond.instanceMethod ({ cls := "LoafFall$Loaf", name := "tearOverfull", desc := "(Z)V" } : Jvm.MethodName)) ∈ a_gw := a_gwI 644 (by decide +kernel) rfl
theorem tw_645 : (Cond.code ({ cls := "LoafFall$Loaf", name := "tearOverfull", desc := "(Z)V" } : Jvm.MethodName) prog_8_method_9_code (7 : Nat) (Option.none : Option Jvm.ClassFile.FieldType)) ∈ a_gw := a_gwI 645 (by decide +kernel) rfl
theorem tw_646 : (Cond.methodLink "LoafFall$Loaf" (118 : Nat) ({ cls := "LoafFall$Loaf", name := "tearUndone", desc := "()V" } : Jvm.MethodName)) ∈ a_gw := a_gwI 646 (by decide +kernel) rfl
theorem tw_648 : (Cond.instanceMethod ({ cls := "LoafFall$Loaf", name := "tearUndone", desc := "()V" } : Jvm.MethodName)) ∈ a_gw := a_gwI 648 (by decide +kernel) rfl
theorem tw_649 : (Cond.code ({ cls := "LoafFall$Loaf", name := "tearUndone", desc := "()V" } : Jvm.MethodName) prog_8_method_10_code (3 : Nat) (Option.none : Option Jvm.ClassFile.FieldType)) ∈ a_gw := a_gwI 649 (by decide +kernel) rfl
theorem tw_650 : (Cond.methodLink "LoafFallLaw" (78 : Nat) ({ cls := "LoafFall", name := "cell", desc := "(II)I" } : Jvm.MethodName)) ∈ a_gw := a_gwI 650 (by decide +kernel) rfl
theorem tw_651 : (Cond.instanceMethod ({ cls := "LoafFall", name := "cell", desc := "(II)I" } : Jvm.MethodName)) ∈ a_gw := a_gwI 651 (by decide +kernel) rfl
theorem tw_652 : (Cond.selects "LoafFall" ({ cls := "LoafFall", name := "cell", desc := "(II)I" } : Jvm.MethodName) ({ cls := "LoafFall", name := "cell", desc := "(II)I" } : Jvm.MethodName)) ∈ a_gw := a_gwI 652 (by decide +kernel) rfl
theorem tw_653 : (Cond.code ({ cls := "LoafFall", name := "cell", desc := "(II)I" } : Jvm.MethodName) prog_1_method_17_code (3 : Nat) (Option.some Jvm.ClassFile.FieldType.int)) ∈ a_gw := a_gwI 653 (by decide +kernel) rfl
theorem tw_654 : (Cond.methodLink "LoafFall" (224 : Nat) ({ cls := "LoafFall$Dough", name := "factOf", desc := "(II)I" } : Jvm.MethodName)) ∈ a_gw := a_gwI 654 (by decide +kernel) rfl
theorem tw_655 : (Cond.instanceMethod ({ cls := "LoafFall$Dough", name := "factOf", desc := "(II)I" } : Jvm.MethodName)) ∈ a_gw := a_gwI 655 (by decide +kernel) rfl
theorem tw_656 : (Cond.selects "LoafFall$Dough" ({ cls := "LoafFall$Dough", name := "factOf", desc := "(II)I" } : Jvm.MethodName) ({ cls := "LoafFall$Dough", name := "factOf", desc := "(II)I" } : Jvm.MethodName)) ∈ a_gw := a_gwI 656 (by decide +kernel) rfl
theorem tw_657 : (Cond.code ({ cls := "LoafFall$Dough", name := "factOf", desc := "(II)I" } : Jvm.MethodName) prog_4_method_5_code (3 : Nat) (Option.some Jvm.ClassFile.FieldType.int)) ∈ a_gw := a_gwI 657 (by decide +kernel) rfl
theorem tw_658 : (Cond.methodLink "LoafFallLaw" (82 : Nat) ({ cls := "LoafFall", name := "fall", desc := "(II)I" } : Jvm.MethodName)) ∈ a_gw := a_gwI 658 (by decide +kernel) rfl
theorem tw_659 : (Cond.instanceMethod ({ cls := "LoafFall", name := "fall", desc := "(II)I" } : Jvm.MethodName)) ∈ a_gw := a_gwI 659 (by decide +kernel) rfl
theorem tw_660 : (Cond.selects "LoafFall" ({ cls := "LoafFall", name := "fall", desc := "(II)I" } : Jvm.MethodName) ({ cls := "LoafFall", name := "fall", desc := "(II)I" } : Jvm.MethodName)) ∈ a_gw := a_gwI 660 (by decide +kernel) rfl
theorem tw_661 : (Cond.code ({ cls := "LoafFall", name := "fall", desc := "(II)I" } : Jvm.MethodName) prog_1_method_18_code (3 : Nat) (Option.some Jvm.ClassFile.FieldType.int)) ∈ a_gw := a_gwI 661 (by decide +kernel) rfl
theorem tw_662 : (Cond.methodLink "LoafFall" (227 : Nat) ({ cls := "LoafFall", name := "isFall", desc := "(I)Z" } : Jvm.MethodName)) ∈ a_gw := a_gwI 662 (by decide +kernel) rfl
theorem tw_664 : (Cond.instanceMethod ({ cls := "LoafFall", name := "isFall", desc := "(I)Z" } : Jvm.MethodName)) ∈ a_gw := a_gwI 664 (by decide +kernel) rfl
theorem tw_665 : (Cond.code ({ cls := "LoafFall", name := "isFall", desc := "(I)Z" } : Jvm.MethodName) prog_1_method_55_code (2 : Nat) (Option.some Jvm.ClassFile.FieldType.boolean)) ∈ a_gw := a_gwI 665 (by decide +kernel) rfl
theorem tw_666 : (Cond.methodLink "LoafFall" (234 : Nat) ({ cls := "LoafFall$Falls", name := "factOf", desc := "(II)I" } : Jvm.MethodName)) ∈ a_gw := a_gwI 666 (by decide +kernel) rfl
theorem tw_667 : (Cond.instanceMethod ({ cls := "LoafFall$Falls", name := "factOf", desc := "(II)I" } : Jvm.MethodName)) ∈ a_gw := a_gwI 667 (by decide +kernel) rfl
theorem tw_668 : (Cond.selects "LoafFall$Falls" ({ cls := "LoafFall$Falls", name := "factOf", desc := "(II)I" } : Jvm.MethodName) ({ cls := "LoafFall$Falls", name := "factOf", desc := "(II)I" } : Jvm.MethodName)) ∈ a_gw := a_gwI 668 (by decide +kernel) rfl
theorem tw_669 : (Cond.code ({ cls := "LoafFall$Falls", name := "factOf", desc := "(II)I" } : Jvm.MethodName) prog_5_method_4_code (3 : Nat) (Option.some Jvm.ClassFile.FieldType.int)) ∈ a_gw := a_gwI 669 (by decide +kernel) rfl
theorem tw_670 : (Cond.methodLink "LoafFallLaw" (86 : Nat) ({ cls := "LoafFall", name := "mark", desc := "(II)I" } : Jvm.MethodName)) ∈ a_gw := a_gwI 670 (by decide +kernel) rfl
theorem tw_671 : (Cond.instanceMethod ({ cls := "LoafFall", name := "mark", desc := "(II)I" } : Jvm.MethodName)) ∈ a_gw := a_gwI 671 (by decide +kernel) rfl
theorem tw_672 : (Cond.selects "LoafFall" ({ cls := "LoafFall", name := "mark", desc := "(II)I" } : Jvm.MethodName) ({ cls := "LoafFall", name := "mark", desc := "(II)I" } : Jvm.MethodName)) ∈ a_gw := a_gwI 672 (by decide +kernel) rfl
theorem tw_673 : (Cond.code ({ cls := "LoafFall", name := "mark", desc := "(II)I" } : Jvm.MethodName) prog_1_method_19_code (3 : Nat) (Option.some Jvm.ClassFile.FieldType.int)) ∈ a_gw := a_gwI 673 (by decide +kernel) rfl
theorem tw_674 : (Cond.methodLink "LoafFall" (237 : Nat) ({ cls := "LoafFall$Falls", name := "isOfKind", desc := "(II)Z" } : Jvm.MethodName)) ∈ a_gw := a_gwI 674 (by decide +kernel) rfl
theorem tw_675 : (Cond.instanceMethod ({ cls := "LoafFall$Falls", name := "isOfKind", desc := "(II)Z" } : Jvm.MethodName)) ∈ a_gw := a_gwI 675 (by decide +kernel) rfl
theorem tw_676 : (Cond.selects "LoafFall$Falls" ({ cls := "LoafFall$Falls", name := "isOfKind", desc := "(II)Z" } : Jvm.MethodName) ({ cls := "LoafFall$Falls", name := "isOfKind", desc := "(II)Z" } : Jvm.MethodName)) ∈ a_gw := a_gwI 676 (by decide +kernel) rfl
theorem tw_677 : (Cond.code ({ cls := "LoafFall$Falls", name := "isOfKind", desc := "(II)Z" } : Jvm.MethodName) prog_5_method_5_code (4 : Nat) (Option.some Jvm.ClassFile.FieldType.boolean)) ∈ a_gw := a_gwI 677 (by decide +kernel) rfl
theorem tw_678 : (Cond.methodLink "LoafFallLaw" (90 : Nat) ({ cls := "LoafFall", name := "keep", desc := "(I)I" } : Jvm.MethodName)) ∈ a_gw := a_gwI 678 (by decide +kernel) rfl
theorem tw_679 : (Cond.instanceMethod ({ cls := "LoafFall", name := "keep", desc := "(I)I" } : Jvm.MethodName)) ∈ a_gw := a_gwI 679 (by decide +kernel) rfl
theorem tw_680 : (Cond.selects "LoafFall" ({ cls := "LoafFall", name := "keep", desc := "(I)I" } : Jvm.MethodName) ({ cls := "LoafFall", name := "keep", desc := "(I)I" } : Jvm.MethodName)) ∈ a_gw := a_gwI 680 (by decide +kernel) rfl
theorem tw_681 : (Cond.code ({ cls := "LoafFall", name := "keep", desc := "(I)I" } : Jvm.MethodName) prog_1_method_20_code (2 : Nat) (Option.some Jvm.ClassFile.FieldType.int)) ∈ a_gw := a_gwI 681 (by decide +kernel) rfl
theorem tw_682 : (Cond.methodLink "LoafFall" (249 : Nat) ({ cls := "LoafFall", name := "isPlace", desc := "(I)Z" } : Jvm.MethodName)) ∈ a_gw := a_gwI 682 (by decide +kernel) rfl
theorem tw_683 : (Cond.static ({ cls := "LoafFall", name := "isPlace", desc := "(I)Z" } : Jvm.MethodName)) ∈ a_gw := a_gwI 683 (by decide +kernel) rfl
theorem tw_684 : (Cond.code ({ cls := "LoafFall", name := "isPlace", desc := "(I)Z" } : Jvm.MethodName) prog_1_method_53_code (1 : Nat) (Option.some Jvm.ClassFile.FieldType.boolean)) ∈ a_gw := a_gwI 684 (by decide +kernel) rfl
theorem tw_685 : (Cond.methodLink "LoafFall" (252 : Nat) ({ cls := "LoafFall$Loaf", name := "take", desc := "(LLoafFall$Loaf;)V" } : Jvm.MethodName)) ∈ a_gw := a_gwI 685 (by decide +kernel) rfl
theorem tw_686 : (Cond.instanceMethod ({ cls := "LoafFall$Loaf", name := "take", desc := "(LLoafFall$Loaf;)V" } : Jvm.MethodName)) ∈ a_gw := a_gwI 686 (by decide +kernel) rfl
theorem tw_687 : (Cond.selects "LoafFall$Loaf" ({ cls := "LoafFall$Loaf", name := "take", desc := "(LLoafFall$Loaf;)V" } : Jvm.MethodName) ({ cls := "LoafFall$Loaf", name := "take", desc := "(LLoafFall$Loaf;)V" } : Jvm.MethodName)) ∈ a_gw := a_gwI 687 (by decide +kernel) rfl
theorem tw_688 : (Cond.code ({ cls := "LoafFall$Loaf", name := "take", desc := "(LLoafFall$Loaf;)V" } : Jvm.MethodName) prog_8_method_3_code (2 : Nat) (Option.none : Option Jvm.ClassFile.FieldType)) ∈ a_gw := a_gwI 688 (by decide +kernel) rfl
theorem tw_689 : (Cond.methodLink "LoafFall$Loaf" (58 : Nat) ({ cls := "LoafFall$Dough", name := "take", desc := "(LLoafFall$Dough;)V" } : Jvm.MethodName)) ∈ a_gw := a_gwI 689 (by decide +kernel) rfl
theorem tw_690 : (Cond.instanceMethod ({ cls := "LoafFall$Dough", name := "take", desc := "(LLoafFall$Dough;)V" } : Jvm.MethodName)) ∈ a_gw := a_gwI 690 (by decide +kernel) rfl
theorem tw_691 : (Cond.selects "LoafFall$Dough" ({ cls := "LoafFall$Dough", name := "take", desc := "(LLoafFall$Dough;)V" } : Jvm.MethodName) ({ cls := "LoafFall$Dough", name := "take", desc := "(LLoafFall$Dough;)V" } : Jvm.MethodName)) ∈ a_gw := a_gwI 691 (by decide +kernel) rfl
theorem tw_692 : (Cond.code ({ cls := "LoafFall$Dough", name := "take", desc := "(LLoafFall$Dough;)V" } : Jvm.MethodName) prog_4_method_3_code (2 : Nat) (Option.none : Option Jvm.ClassFile.FieldType)) ∈ a_gw := a_gwI 692 (by decide +kernel) rfl
theorem tw_693 : (Cond.methodLink "LoafFall$Dough" (44 : Nat) ({ cls := "java/lang/System", name := "arraycopy", desc := "(Ljava/lang/Object;ILjava/lang/Object;II)V" } : Jvm.MethodName)) ∈ a_gw := a_gwI 693 (by decide +kernel) rfl
theorem tw_694 : (Cond.methodLink "LoafFall$Loaf" (61 : Nat) ({ cls := "LoafFall$Falls", name := "take", desc := "(LLoafFall$Falls;)V" } : Jvm.MethodName)) ∈ a_gw := a_gwI 694 (by decide +kernel) rfl
theorem tw_695 : (Cond.instanceMethod ({ cls := "LoafFall$Falls", name := "take", desc := "(LLoafFall$Falls;)V" } : Jvm.MethodName)) ∈ a_gw := a_gwI 695 (by decide +kernel) rfl
theorem tw_696 : (Cond.selects "LoafFall$Falls" ({ cls := "LoafFall$Falls", name := "take", desc := "(LLoafFall$Falls;)V" } : Jvm.MethodName) ({ cls := "LoafFall$Falls", name := "take", desc := "(LLoafFall$Falls;)V" } : Jvm.MethodName)) ∈ a_gw := a_gwI 696 (by decide +kernel) rfl
theorem tw_697 : (Cond.code ({ cls := "LoafFall$Falls", name := "take", desc := "(LLoafFall$Falls;)V" } : Jvm.MethodName) prog_5_method_2_code (2 : Nat) (Option.none : Option Jvm.ClassFile.FieldType)) ∈ a_gw := a_gwI 697 (by decide +kernel) rfl
theorem tw_698 : (Cond.methodLink "LoafFall$Falls" (27 : Nat) ({ cls := "java/lang/System", name := "arraycopy", desc := "(Ljava/lang/Object;ILjava/lang/Object;II)V" } : Jvm.MethodName)) ∈ a_gw := a_gwI 698 (by decide +kernel) rfl
theorem tw_699 : (Cond.methodLink "LoafFallLaw" (94 : Nat) ({ cls := "LoafFall", name := "on", desc := "(I)I" } : Jvm.MethodName)) ∈ a_gw := a_gwI 699 (by decide +kernel) rfl
theorem tw_700 : (Cond.instanceMethod ({ cls := "LoafFall", name := "on", desc := "(I)I" } : Jvm.MethodName)) ∈ a_gw := a_gwI 700 (by decide +kernel) rfl
theorem tw_701 : (Cond.selects "LoafFall" ({ cls := "LoafFall", name := "on", desc := "(I)I" } : Jvm.MethodName) ({ cls := "LoafFall", name := "on", desc := "(I)I" } : Jvm.MethodName)) ∈ a_gw := a_gwI 701 (by decide +kernel) rfl
theorem tw_702 : (Cond.code ({ cls := "LoafFall", name := "on", desc := "(I)I" } : Jvm.MethodName) prog_1_method_21_code (2 : Nat) (Option.some Jvm.ClassFile.FieldType.int)) ∈ a_gw := a_gwI 702 (by decide +kernel) rfl
theorem tw_703 : (Cond.methodLink "LoafFallLaw" (98 : Nat) ({ cls := "LoafFall", name := "height", desc := "()I" } : Jvm.MethodName)) ∈ a_gw := a_gwI 703 (by decide +kernel) rfl
theorem tw_704 : (Cond.instanceMethod ({ cls := "LoafFall", name := "height", desc := "()I" } : Jvm.MethodName)) ∈ a_gw := a_gwI 704 (by decide +kernel) rfl
theorem tw_705 : (Cond.selects "LoafFall" ({ cls := "LoafFall", name := "height", desc := "()I" } : Jvm.MethodName) ({ cls := "LoafFall", name := "height", desc := "()I" } : Jvm.MethodName)) ∈ a_gw := a_gwI 705 (by decide +kernel) rfl
theorem tw_706 : (Cond.code ({ cls := "LoafFall", name := "height", desc := "()I" } : Jvm.MethodName) prog_1_method_22_code (1 : Nat) (Option.some Jvm.ClassFile.FieldType.int)) ∈ a_gw := a_gwI 706 (by decide +kernel) rfl
theorem tw_707 : (Cond.methodLink "LoafFall" (255 : Nat) ({ cls := "LoafFall$Dough", name := "worthNow", desc := "()I" } : Jvm.MethodName)) ∈ a_gw := a_gwI 707 (by decide +kernel) rfl
theorem tw_708 : (Cond.instanceMethod ({ cls := "LoafFall$Dough", name := "worthNow", desc := "()I" } : Jvm.MethodName)) ∈ a_gw := a_gwI 708 (by decide +kernel) rfl
theorem tw_709 : (Cond.selects "LoafFall$Dough" ({ cls := "LoafFall$Dough", name := "worthNow", desc := "()I" } : Jvm.MethodName) ({ cls := "LoafFall$Dough", name := "worthNow", desc := "()I" } : Jvm.MethodName)) ∈ a_gw := a_gwI 709 (by decide +kernel) rfl
theorem tw_710 : (Cond.code ({ cls := "LoafFall$Dough", name := "worthNow", desc := "()I" } : Jvm.MethodName) prog_4_method_7_code (3 : Nat) (Option.some Jvm.ClassFile.FieldType.int)) ∈ a_gw := a_gwI 710 (by decide +kernel) rfl
theorem tw_711 : (Cond.methodLink "LoafFall$Dough" (50 : Nat) ({ cls := "LoafFall$Dough", name := "heightNow", desc := "()I" } : Jvm.MethodName)) ∈ a_gw := a_gwI 711 (by decide +kernel) rfl
theorem tw_712 : (Cond.instanceMethod ({ cls := "LoafFall$Dough", name := "heightNow", desc := "()I" } : Jvm.MethodName)) ∈ a_gw := a_gwI 712 (by decide +kernel) rfl
theorem tw_713 : (Cond.selects "LoafFall$Dough" ({ cls := "LoafFall$Dough", name := "heightNow", desc := "()I" } : Jvm.MethodName) ({ cls := "LoafFall$Dough", name := "heightNow", desc := "()I" } : Jvm.MethodName)) ∈ a_gw := a_gwI 713 (by decide +kernel) rfl
theorem tw_714 : (Cond.code ({ cls := "LoafFall$Dough", name := "heightNow", desc := "()I" } : Jvm.MethodName) prog_4_method_6_code (3 : Nat) (Option.some Jvm.ClassFile.FieldType.int)) ∈ a_gw := a_gwI 714 (by decide +kernel) rfl
theorem tw_715 : (Cond.methodLink "LoafFall" (258 : Nat) ({ cls := "LoafFall$Dough", name := "heightNow", desc := "()I" } : Jvm.MethodName)) ∈ a_gw := a_gwI 715 (by decide +kernel) rfl
theorem tw_716 : (Cond.methodLink "LoafFallLaw" (103 : Nat) ({ cls := "LoafFall", name := "holes", desc := "()I" } : Jvm.MethodName)) ∈ a_gw := a_gwI 716 (by decide +kernel) rfl
theorem tw_717 : (Cond.instanceMethod ({ cls := "LoafFall", name := "holes", desc := "()I" } : Jvm.MethodName)) ∈ a_gw := a_gwI 717 (by decide +kernel) rfl
theorem tw_718 : (Cond.selects "LoafFall" ({ cls := "LoafFall", name := "holes", desc := "()I" } : Jvm.MethodName) ({ cls := "LoafFall", name := "holes", desc := "()I" } : Jvm.MethodName)) ∈ a_gw := a_gwI 718 (by decide +kernel) rfl
theorem tw_719 : (Cond.code ({ cls := "LoafFall", name := "holes", desc := "()I" } : Jvm.MethodName) prog_1_method_23_code (1 : Nat) (Option.some Jvm.ClassFile.FieldType.int)) ∈ a_gw := a_gwI 719 (by decide +kernel) rfl
theorem tw_720 : (Cond.methodLink "LoafFall" (261 : Nat) ({ cls := "LoafFall$Holes", name := "search", desc := "(LLoafFall$Dough;)V" } : Jvm.MethodName)) ∈ a_gw := a_gwI 720 (by decide +kernel) rfl
theorem tw_721 : (Cond.instanceMethod ({ cls := "LoafFall$Holes", name := "search", desc := "(LLoafFall$Dough;)V" } : Jvm.MethodName)) ∈ a_gw := a_gwI 721 (by decide +kernel) rfl
theorem tw_722 : (Cond.selects "LoafFall$Holes" ({ cls := "LoafFall$Holes", name := "search", desc := "(LLoafFall$Dough;)V" } : Jvm.MethodName) ({ cls := "LoafFall$Holes", name := "search", desc := "(LLoafFall$Dough;)V" } : Jvm.MethodName)) ∈ a_gw := a_gwI 722 (by decide +kernel) rfl
theorem tw_723 : (Cond.code ({ cls := "LoafFall$Holes", name := "search", desc := "(LLoafFall$Dough;)V" } : Jvm.MethodName) prog_7_method_2_code (3 : Nat) (Option.none : Option Jvm.ClassFile.FieldType)) ∈ a_gw := a_gwI 723 (by decide +kernel) rfl
theorem tw_724 : (Cond.methodLink "LoafFall$Holes" (31 : Nat) ({ cls := "LoafFall$Holes", name := "sizeFrom", desc := "(I)I" } : Jvm.MethodName)) ∈ a_gw := a_gwI 724 (by decide +kernel) rfl
theorem tw_726 : (Cond.instanceMethod ({ cls := "LoafFall$Holes", name := "sizeFrom", desc := "(I)I" } : Jvm.MethodName)) ∈ a_gw := a_gwI 726 (by decide +kernel) rfl
theorem tw_727 : (Cond.code ({ cls := "LoafFall$Holes", name := "sizeFrom", desc := "(I)I" } : Jvm.MethodName) prog_7_method_3_code (4 : Nat) (Option.some Jvm.ClassFile.FieldType.int)) ∈ a_gw := a_gwI 727 (by decide +kernel) rfl
theorem tw_728 : (Cond.methodLink "LoafFall$Holes" (44 : Nat) ({ cls := "LoafFall$Holes", name := "awaitCell", desc := "(I)V" } : Jvm.MethodName)) ∈ a_gw := a_gwI 728 (by decide +kernel) rfl
theorem tw_730 : (Cond.instanceMethod ({ cls := "LoafFall$Holes", name := "awaitCell", desc := "(I)V" } : Jvm.MethodName)) ∈ a_gw := a_gwI 730 (by decide +kernel) rfl
theorem tw_731 : (Cond.code ({ cls := "LoafFall$Holes", name := "awaitCell", desc := "(I)V" } : Jvm.MethodName) prog_7_method_4_code (2 : Nat) (Option.none : Option Jvm.ClassFile.FieldType)) ∈ a_gw := a_gwI 731 (by decide +kernel) rfl
theorem tw_732 : (Cond.methodLink "LoafFall$Holes" (35 : Nat) ({ cls := "java/lang/Math", name := "max", desc := "(II)I" } : Jvm.MethodName)) ∈ a_gw := a_gwI 732 (by decide +kernel) rfl
theorem tw_733 : (Cond.methodLink "LoafFallLaw" (107 : Nat) ({ cls := "LoafFall", name := "cut", desc := "(I)I" } : Jvm.MethodName)) ∈ a_gw := a_gwI 733 (by decide +kernel) rfl
theorem tw_734 : (Cond.instanceMethod ({ cls := "LoafFall", name := "cut", desc := "(I)I" } : Jvm.MethodName)) ∈ a_gw := a_gwI 734 (by decide +kernel) rfl
theorem tw_735 : (Cond.selects "LoafFall" ({ cls := "LoafFall", name := "cut", desc := "(I)I" } : Jvm.MethodName) ({ cls := "LoafFall", name := "cut", desc := "(I)I" } : Jvm.MethodName)) ∈ a_gw := a_gwI 735 (by decide +kernel) rfl
theorem tw_736 : (Cond.code ({ cls := "LoafFall", name := "cut", desc := "(I)I" } : Jvm.MethodName) prog_1_method_24_code (3 : Nat) (Option.some Jvm.ClassFile.FieldType.int)) ∈ a_gw := a_gwI 736 (by decide +kernel) rfl
theorem tw_737 : (Cond.methodLink "LoafFall" (270 : Nat) ({ cls := "LoafFall$Dough", name := "lookOf", desc := "(I)I" } : Jvm.MethodName)) ∈ a_gw := a_gwI 737 (by decide +kernel) rfl
theorem tw_738 : (Cond.instanceMethod ({ cls := "LoafFall$Dough", name := "lookOf", desc := "(I)I" } : Jvm.MethodName)) ∈ a_gw := a_gwI 738 (by decide +kernel) rfl
theorem tw_739 : (Cond.selects "LoafFall$Dough" ({ cls := "LoafFall$Dough", name := "lookOf", desc := "(I)I" } : Jvm.MethodName) ({ cls := "LoafFall$Dough", name := "lookOf", desc := "(I)I" } : Jvm.MethodName)) ∈ a_gw := a_gwI 739 (by decide +kernel) rfl
theorem tw_740 : (Cond.code ({ cls := "LoafFall$Dough", name := "lookOf", desc := "(I)I" } : Jvm.MethodName) prog_4_method_8_code (2 : Nat) (Option.some Jvm.ClassFile.FieldType.int)) ∈ a_gw := a_gwI 740 (by decide +kernel) rfl
theorem tw_741 : (Cond.methodLink "LoafFallLaw" (111 : Nat) ({ cls := "LoafFall", name := "rests", desc := "(I)I" } : Jvm.MethodName)) ∈ a_gw := a_gwI 741 (by decide +kernel) rfl
theorem tw_742 : (Cond.instanceMethod ({ cls := "LoafFall", name := "rests", desc := "(I)I" } : Jvm.MethodName)) ∈ a_gw := a_gwI 742 (by decide +kernel) rfl
theorem tw_743 : (Cond.selects "LoafFall" ({ cls := "LoafFall", name := "rests", desc := "(I)I" } : Jvm.MethodName) ({ cls := "LoafFall", name := "rests", desc := "(I)I" } : Jvm.MethodName)) ∈ a_gw := a_gwI 743 (by decide +kernel) rfl
theorem tw_744 : (Cond.code ({ cls := "LoafFall", name := "rests", desc := "(I)I" } : Jvm.MethodName) prog_1_method_25_code (2 : Nat) (Option.some Jvm.ClassFile.FieldType.int)) ∈ a_gw := a_gwI 744 (by decide +kernel) rfl
theorem tw_745 : (Cond.methodLink "LoafFall" (276 : Nat) ({ cls := "LoafFall", name := "isWarmth", desc := "(I)Z" } : Jvm.MethodName)) ∈ a_gw := a_gwI 745 (by decide +kernel) rfl
theorem tw_746 : (Cond.static ({ cls := "LoafFall", name := "isWarmth", desc := "(I)Z" } : Jvm.MethodName)) ∈ a_gw := a_gwI 746 (by decide +kernel) rfl
theorem tw_747 : (Cond.code ({ cls := "LoafFall", name := "isWarmth", desc := "(I)Z" } : Jvm.MethodName) prog_1_method_54_code (1 : Nat) (Option.some Jvm.ClassFile.FieldType.boolean)) ∈ a_gw := a_gwI 747 (by decide +kernel) rfl
theorem tw_748 : (Cond.methodLink "LoafFall" (279 : Nat) ({ cls := "LoafFall$Baker", name := "restsOf", desc := "(LLoafFall$Loaf;I)I" } : Jvm.MethodName)) ∈ a_gw := a_gwI 748 (by decide +kernel) rfl
theorem tw_749 : (Cond.instanceMethod ({ cls := "LoafFall$Baker", name := "restsOf", desc := "(LLoafFall$Loaf;I)I" } : Jvm.MethodName)) ∈ a_gw := a_gwI 749 (by decide +kernel) rfl
theorem tw_750 : (Cond.selects "LoafFall$Baker" ({ cls := "LoafFall$Baker", name := "restsOf", desc := "(LLoafFall$Loaf;I)I" } : Jvm.MethodName) ({ cls := "LoafFall$Baker", name := "restsOf", desc := "(LLoafFall$Loaf;I)I" } : Jvm.MethodName)) ∈ a_gw := a_gwI 750 (by decide +kernel) rfl
theorem tw_751 : (Cond.code ({ cls := "LoafFall$Baker", name := "restsOf", desc := "(LLoafFall$Loaf;I)I" } : Jvm.MethodName) prog_2_method_5_code (5 : Nat) (Option.some Jvm.ClassFile.FieldType.int)) ∈ a_gw := a_gwI 751 (by decide +kernel) rfl
theorem tw_752 : (Cond.methodLink "LoafFall$Baker" (89 : Nat) ({ cls := "LoafFall$Loaf", name := "take", desc := "(LLoafFall$Loaf;)V" } : Jvm.MethodName)) ∈ a_gw := a_gwI 752 (by decide +kernel) rfl
theorem tw_753 : (Cond.methodLink "LoafFall$Baker" (61 : Nat) ({ cls := "LoafFall$Loaf", name := "turnBy", desc := "(IZ)V" } : Jvm.MethodName)) ∈ a_gw := a_gwI 753 (by decide +kernel) rfl
theorem tw_754 : (Cond.methodLink "LoafFallLaw" (115 : Nat) ({ cls := "LoafFall", name := "why", desc := "(I)I" } : Jvm.MethodName)) ∈ a_gw := a_gwI 754 (by decide +kernel) rfl
theorem tw_755 : (Cond.instanceMethod ({ cls := "LoafFall", name := "why", desc := "(I)I" } : Jvm.MethodName)) ∈ a_gw := a_gwI 755 (by decide +kernel) rfl
theorem tw_756 : (Cond.selects "LoafFall" ({ cls := "LoafFall", name := "why", desc := "(I)I" } : Jvm.MethodName) ({ cls := "LoafFall", name := "why", desc := "(I)I" } : Jvm.MethodName)) ∈ a_gw := a_gwI 756 (by decide +kernel) rfl
theorem tw_757 : (Cond.code ({ cls := "LoafFall", name := "why", desc := "(I)I" } : Jvm.MethodName) prog_1_method_26_code (7 : Nat) (Option.some Jvm.ClassFile.FieldType.int)) ∈ a_gw := a_gwI 757 (by decide +kernel) rfl
theorem tw_758 : (Cond.methodLink "LoafFall" (283 : Nat) ({ cls := "LoafFall", name := "lackOfPairs", desc := "(I)I" } : Jvm.MethodName)) ∈ a_gw := a_gwI 758 (by decide +kernel) rfl
theorem tw_760 : (Cond.instanceMethod ({ cls := "LoafFall", name := "lackOfPairs", desc := "(I)I" } : Jvm.MethodName)) ∈ a_gw := a_gwI 760 (by decide +kernel) rfl
theorem tw_761 : (Cond.code ({ cls := "LoafFall", name := "lackOfPairs", desc := "(I)I" } : Jvm.MethodName) prog_1_method_60_code (2 : Nat) (Option.some Jvm.ClassFile.FieldType.int)) ∈ a_gw := a_gwI 761 (by decide +kernel) rfl
theorem tw_762 : (Cond.methodLink "LoafFall" (332 : Nat) ({ cls := "LoafFall", name := "countFlours", desc := "()I" } : Jvm.MethodName)) ∈ a_gw := a_gwI 762 (by decide +kernel) rfl
theorem tw_764 : (Cond.instanceMethod ({ cls := "LoafFall", name := "countFlours", desc := "()I" } : Jvm.MethodName)) ∈ a_gw := a_gwI 764 (by decide +kernel) rfl
theorem tw_765 : (Cond.code ({ cls := "LoafFall", name := "countFlours", desc := "()I" } : Jvm.MethodName) prog_1_method_69_code (3 : Nat) (Option.some Jvm.ClassFile.FieldType.int)) ∈ a_gw := a_gwI 765 (by decide +kernel) rfl
theorem tw_766 : (Cond.methodLink "LoafFall" (382 : Nat) ({ cls := "LoafFall", name := "countDoings", desc := "()I" } : Jvm.MethodName)) ∈ a_gw := a_gwI 766 (by decide +kernel) rfl
theorem tw_768 : (Cond.instanceMethod ({ cls := "LoafFall", name := "countDoings", desc := "()I" } : Jvm.MethodName)) ∈ a_gw := a_gwI 768 (by decide +kernel) rfl
theorem tw_769 : (Cond.code ({ cls := "LoafFall", name := "countDoings", desc := "()I" } : Jvm.MethodName) prog_1_method_70_code (3 : Nat) (Option.some Jvm.ClassFile.FieldType.int)) ∈ a_gw := a_gwI 769 (by decide +kernel) rfl
theorem tw_770 : (Cond.methodLink "LoafFall" (424 : Nat) ({ cls := "LoafFall", name := "lackOfCut", desc := "(I)I" } : Jvm.MethodName)) ∈ a_gw := a_gwI 770 (by decide +kernel) rfl
theorem tw_772 : (Cond.instanceMethod ({ cls := "LoafFall", name := "lackOfCut", desc := "(I)I" } : Jvm.MethodName)) ∈ a_gw := a_gwI 772 (by decide +kernel) rfl
theorem tw_773 : (Cond.code ({ cls := "LoafFall", name := "lackOfCut", desc := "(I)I" } : Jvm.MethodName) prog_1_method_62_code (3 : Nat) (Option.some Jvm.ClassFile.FieldType.int)) ∈ a_gw := a_gwI 773 (by decide +kernel) rfl
theorem tw_774 : (Cond.methodLink "LoafFall" (286 : Nat) ({ cls := "LoafFall", name := "unlikeOfPair", desc := "(II)I" } : Jvm.MethodName)) ∈ a_gw := a_gwI 774 (by decide +kernel) rfl
theorem tw_776 : (Cond.instanceMethod ({ cls := "LoafFall", name := "unlikeOfPair", desc := "(II)I" } : Jvm.MethodName)) ∈ a_gw := a_gwI 776 (by decide +kernel) rfl
theorem tw_777 : (Cond.code ({ cls := "LoafFall", name := "unlikeOfPair", desc := "(II)I" } : Jvm.MethodName) prog_1_method_64_code (5 : Nat) (Option.some Jvm.ClassFile.FieldType.int)) ∈ a_gw := a_gwI 777 (by decide +kernel) rfl
theorem tw_778 : (Cond.methodLink "LoafFall" (303 : Nat) ({ cls := "LoafFall$Baker", name := "bake", desc := "(LLoafFall$Flour;LLoafFall$Doing;)LLoafFall$Dough;" } : Jvm.MethodName)) ∈ a_gw := a_gwI 778 (by decide +kernel) rfl
theorem tw_779 : (Cond.instanceMethod ({ cls := "LoafFall$Baker", name := "bake", desc := "(LLoafFall$Flour;LLoafFall$Doing;)LLoafFall$Dough;" } : Jvm.MethodName)) ∈ a_gw := a_gwI 779 (by decide +kernel) rfl
theorem tw_780 : (Cond.selects "LoafFall$Baker" ({ cls := "LoafFall$Baker", name := "bake", desc := "(LLoafFall$Flour;LLoafFall$Doing;)LLoafFall$Dough;" } : Jvm.MethodName) ({ cls := "LoafFall$Baker", name := "bake", desc := "(LLoafFall$Flour;LLoafFall$Doing;)LLoafFall$Dough;" } : Jvm.MethodName)) ∈ a_gw := a_gwI 780 (by decide +kernel) rfl
theorem tw_781 : (Cond.code ({ cls := "LoafFall$Baker", name := "bake", desc := "(LLoafFall$Flour;LLoafFall$Doing;)LLoafFall$Dough;" } : Jvm.MethodName) prog_2_method_2_code (5 : Nat) (Option.some (Jvm.ClassFile.FieldType.object "LoafFall$Dough"))) ∈ a_gw := a_gwI 781 (by decide +kernel) rfl
theorem tw_782 : (Cond.methodLink "LoafFall$Baker" (25 : Nat) ({ cls := "LoafFall$Baker", name := "stepsKnown", desc := "(LLoafFall$Flour;LLoafFall$Doing;)I" } : Jvm.MethodName)) ∈ a_gw := a_gwI 782 (by decide +kernel) rfl
theorem tw_784 : (Cond.instanceMethod ({ cls := "LoafFall$Baker", name := "stepsKnown", desc := "(LLoafFall$Flour;LLoafFall$Doing;)I" } : Jvm.MethodName)) ∈ a_gw := a_gwI 784 (by decide +kernel) rfl
theorem tw_785 : (Cond.code ({ cls := "LoafFall$Baker", name := "stepsKnown", desc := "(LLoafFall$Flour;LLoafFall$Doing;)I" } : Jvm.MethodName) prog_2_method_4_code (3 : Nat) (Option.some Jvm.ClassFile.FieldType.int)) ∈ a_gw := a_gwI 785 (by decide +kernel) rfl
theorem tw_786 : (Cond.methodLink "LoafFall$Baker" (69 : Nat) ({ cls := "LoafFall$Flour", name := "isLike", desc := "(LLoafFall$Flour;)Z" } : Jvm.MethodName)) ∈ a_gw := a_gwI 786 (by decide +kernel) rfl
theorem tw_787 : (Cond.instanceMethod ({ cls := "LoafFall$Flour", name := "isLike", desc := "(LLoafFall$Flour;)Z" } : Jvm.MethodName)) ∈ a_gw := a_gwI 787 (by decide +kernel) rfl
theorem tw_788 : (Cond.selects "LoafFall$Flour" ({ cls := "LoafFall$Flour", name := "isLike", desc := "(LLoafFall$Flour;)Z" } : Jvm.MethodName) ({ cls := "LoafFall$Flour", name := "isLike", desc := "(LLoafFall$Flour;)Z" } : Jvm.MethodName)) ∈ a_gw := a_gwI 788 (by decide +kernel) rfl
theorem tw_789 : (Cond.code ({ cls := "LoafFall$Flour", name := "isLike", desc := "(LLoafFall$Flour;)Z" } : Jvm.MethodName) prog_6_method_4_code (3 : Nat) (Option.some Jvm.ClassFile.FieldType.boolean)) ∈ a_gw := a_gwI 789 (by decide +kernel) rfl
theorem tw_790 : (Cond.methodLink "LoafFall$Baker" (79 : Nat) ({ cls := "LoafFall$Doing", name := "sharedSteps", desc := "(LLoafFall$Doing;)I" } : Jvm.MethodName)) ∈ a_gw := a_gwI 790 (by decide +kernel) rfl
theorem tw_791 : (Cond.instanceMethod ({ cls := "LoafFall$Doing", name := "sharedSteps", desc := "(LLoafFall$Doing;)I" } : Jvm.MethodName)) ∈ a_gw := a_gwI 791 (by decide +kernel) rfl
theorem tw_792 : (Cond.selects "LoafFall$Doing" ({ cls := "LoafFall$Doing", name := "sharedSteps", desc := "(LLoafFall$Doing;)I" } : Jvm.MethodName) ({ cls := "LoafFall$Doing", name := "sharedSteps", desc := "(LLoafFall$Doing;)I" } : Jvm.MethodName)) ∈ a_gw := a_gwI 792 (by decide +kernel) rfl
theorem tw_793 : (Cond.code ({ cls := "LoafFall$Doing", name := "sharedSteps", desc := "(LLoafFall$Doing;)I" } : Jvm.MethodName) prog_3_method_15_code (4 : Nat) (Option.some Jvm.ClassFile.FieldType.int)) ∈ a_gw := a_gwI 793 (by decide +kernel) rfl
theorem tw_794 : (Cond.methodLink "LoafFall$Doing" (39 : Nat) ({ cls := "java/lang/Math", name := "min", desc := "(II)I" } : Jvm.MethodName)) ∈ a_gw := a_gwI 794 (by decide +kernel) rfl
theorem tw_795 : (Cond.methodLink "LoafFall$Baker" (83 : Nat) ({ cls := "java/lang/Math", name := "min", desc := "(II)I" } : Jvm.MethodName)) ∈ a_gw := a_gwI 795 (by decide +kernel) rfl
theorem tw_796 : (Cond.methodLink "LoafFall$Baker" (29 : Nat) ({ cls := "LoafFall$Loaf", name := "start", desc := "(LLoafFall$Flour;LLoafFall$Doing;)V" } : Jvm.MethodName)) ∈ a_gw := a_gwI 796 (by decide +kernel) rfl
theorem tw_797 : (Cond.methodLink "LoafFall$Baker" (37 : Nat) ({ cls := "LoafFall$Dough", name := "take", desc := "(LLoafFall$Dough;)V" } : Jvm.MethodName)) ∈ a_gw := a_gwI 797 (by decide +kernel) rfl
theorem tw_798 : (Cond.methodLink "LoafFall$Baker" (50 : Nat) ({ cls := "LoafFall$Dough", name := "isAllTorn", desc := "()Z" } : Jvm.MethodName)) ∈ a_gw := a_gwI 798 (by decide +kernel) rfl
theorem tw_799 : (Cond.instanceMethod ({ cls := "LoafFall$Dough", name := "isAllTorn", desc := "()Z" } : Jvm.MethodName)) ∈ a_gw := a_gwI 799 (by decide +kernel) rfl
theorem tw_800 : (Cond.selects "LoafFall$Dough" ({ cls := "LoafFall$Dough", name := "isAllTorn", desc := "()Z" } : Jvm.MethodName) ({ cls := "LoafFall$Dough", name := "isAllTorn", desc := "()Z" } : Jvm.MethodName)) ∈ a_gw := a_gwI 800 (by decide +kernel) rfl
theorem tw_801 : (Cond.code ({ cls := "LoafFall$Dough", name := "isAllTorn", desc := "()Z" } : Jvm.MethodName) prog_4_method_4_code (1 : Nat) (Option.some Jvm.ClassFile.FieldType.boolean)) ∈ a_gw := a_gwI 801 (by decide +kernel) rfl
theorem tw_802 : (Cond.methodLink "LoafFall$Baker" (54 : Nat) ({ cls := "LoafFall$Baker", name := "rememberAhead", desc := "(I)V" } : Jvm.MethodName)) ∈ a_gw := a_gwI 802 (by decide +kernel) rfl
theorem tw_804 : (Cond.instanceMethod ({ cls := "LoafFall$Baker", name := "rememberAhead", desc := "(I)V" } : Jvm.MethodName)) ∈ a_gw := a_gwI 804 (by decide +kernel) rfl
theorem tw_805 : (Cond.code ({ cls := "LoafFall$Baker", name := "rememberAhead", desc := "(I)V" } : Jvm.MethodName) prog_2_method_3_code (2 : Nat) (Option.none : Option Jvm.ClassFile.FieldType)) ∈ a_gw := a_gwI 805 (by decide +kernel) rfl
theorem tw_806 : (Cond.methodLink "LoafFall$Baker" (58 : Nat) ({ cls := "LoafFall$Loaf", name := "passStep", desc := "(I)V" } : Jvm.MethodName)) ∈ a_gw := a_gwI 806 (by decide +kernel) rfl
theorem tw_807 : (Cond.instanceMethod ({ cls := "LoafFall$Loaf", name := "passStep", desc := "(I)V" } : Jvm.MethodName)) ∈ a_gw := a_gwI 807 (by decide +kernel) rfl
theorem tw_808 : (Cond.selects "LoafFall$Loaf" ({ cls := "LoafFall$Loaf", name := "passStep", desc := "(I)V" } : Jvm.MethodName) ({ cls := "LoafFall$Loaf", name := "passStep", desc := "(I)V" } : Jvm.MethodName)) ∈ a_gw := a_gwI 808 (by decide +kernel) rfl
theorem tw_809 : (Cond.code ({ cls := "LoafFall$Loaf", name := "passStep", desc := "(I)V" } : Jvm.MethodName) prog_8_method_6_code (3 : Nat) (Option.none : Option Jvm.ClassFile.FieldType)) ∈ a_gw := a_gwI 809 (by decide +kernel) rfl
theorem tw_810 : (Cond.methodLink "LoafFall$Loaf" (101 : Nat) ({ cls := "LoafFall$Dough", name := "isAllTorn", desc := "()Z" } : Jvm.MethodName)) ∈ a_gw := a_gwI 810 (by decide +kernel) rfl
theorem tw_811 : (Cond.methodLink "LoafFall" (307 : Nat) ({ cls := "LoafFall$Dough", name := "unlikeTo", desc := "(LLoafFall$Row;)I" } : Jvm.MethodName)) ∈ a_gw := a_gwI 811 (by decide +kernel) rfl
theorem tw_812 : (Cond.instanceMethod ({ cls := "LoafFall$Dough", name := "unlikeTo", desc := "(LLoafFall$Row;)I" } : Jvm.MethodName)) ∈ a_gw := a_gwI 812 (by decide +kernel) rfl
theorem tw_813 : (Cond.selects "LoafFall$Dough" ({ cls := "LoafFall$Dough", name := "unlikeTo", desc := "(LLoafFall$Row;)I" } : Jvm.MethodName) ({ cls := "LoafFall$Dough", name := "unlikeTo", desc := "(LLoafFall$Row;)I" } : Jvm.MethodName)) ∈ a_gw := a_gwI 813 (by decide +kernel) rfl
theorem tw_814 : (Cond.code ({ cls := "LoafFall$Dough", name := "unlikeTo", desc := "(LLoafFall$Row;)I" } : Jvm.MethodName) prog_4_method_10_code (4 : Nat) (Option.some Jvm.ClassFile.FieldType.int)) ∈ a_gw := a_gwI 814 (by decide +kernel) rfl
theorem tw_815 : (Cond.methodLink "LoafFall$Dough" (60 : Nat) ({ cls := "LoafFall$Dough", name := "lookOf", desc := "(I)I" } : Jvm.MethodName)) ∈ a_gw := a_gwI 815 (by decide +kernel) rfl
theorem tw_816 : (Cond.methodLink "LoafFallLaw" (119 : Nat) ({ cls := "LoafFall", name := "odds", desc := "(II)I" } : Jvm.MethodName)) ∈ a_gw := a_gwI 816 (by decide +kernel) rfl
theorem tw_817 : (Cond.instanceMethod ({ cls := "LoafFall", name := "odds", desc := "(II)I" } : Jvm.MethodName)) ∈ a_gw := a_gwI 817 (by decide +kernel) rfl
theorem tw_818 : (Cond.selects "LoafFall" ({ cls := "LoafFall", name := "odds", desc := "(II)I" } : Jvm.MethodName) ({ cls := "LoafFall", name := "odds", desc := "(II)I" } : Jvm.MethodName)) ∈ a_gw := a_gwI 818 (by decide +kernel) rfl
theorem tw_819 : (Cond.code ({ cls := "LoafFall", name := "odds", desc := "(II)I" } : Jvm.MethodName) prog_1_method_27_code (9 : Nat) (Option.some Jvm.ClassFile.FieldType.int)) ∈ a_gw := a_gwI 819 (by decide +kernel) rfl
theorem tw_820 : (Cond.methodLink "LoafFall" (289 : Nat) ({ cls := "LoafFall", name := "tellFraction", desc := "(II)V" } : Jvm.MethodName)) ∈ a_gw := a_gwI 820 (by decide +kernel) rfl
theorem tw_822 : (Cond.instanceMethod ({ cls := "LoafFall", name := "tellFraction", desc := "(II)V" } : Jvm.MethodName)) ∈ a_gw := a_gwI 822 (by decide +kernel) rfl
theorem tw_823 : (Cond.code ({ cls := "LoafFall", name := "tellFraction", desc := "(II)V" } : Jvm.MethodName) prog_1_method_57_code (5 : Nat) (Option.none : Option Jvm.ClassFile.FieldType)) ∈ a_gw := a_gwI 823 (by decide +kernel) rfl
theorem tw_824 : (Cond.methodLink "LoafFallLaw" (123 : Nat) ({ cls := "LoafFall", name := "sprout", desc := "(III)I" } : Jvm.MethodName)) ∈ a_gw := a_gwI 824 (by decide +kernel) rfl
theorem tw_825 : (Cond.instanceMethod ({ cls := "LoafFall", name := "sprout", desc := "(III)I" } : Jvm.MethodName)) ∈ a_gw := a_gwI 825 (by decide +kernel) rfl
theorem tw_826 : (Cond.selects "LoafFall" ({ cls := "LoafFall", name := "sprout", desc := "(III)I" } : Jvm.MethodName) ({ cls := "LoafFall", name := "sprout", desc := "(III)I" } : Jvm.MethodName)) ∈ a_gw := a_gwI 826 (by decide +kernel) rfl
theorem tw_827 : (Cond.code ({ cls := "LoafFall", name := "sprout", desc := "(III)I" } : Jvm.MethodName) prog_1_method_28_code (9 : Nat) (Option.some Jvm.ClassFile.FieldType.int)) ∈ a_gw := a_gwI 827 (by decide +kernel) rfl
theorem tw_828 : (Cond.methodLink "LoafFall" (293 : Nat) ({ cls := "LoafFall", name := "lackOfPairAndCut", desc := "(III)I" } : Jvm.MethodName)) ∈ a_gw := a_gwI 828 (by decide +kernel) rfl
theorem tw_830 : (Cond.instanceMethod ({ cls := "LoafFall", name := "lackOfPairAndCut", desc := "(III)I" } : Jvm.MethodName)) ∈ a_gw := a_gwI 830 (by decide +kernel) rfl
theorem tw_831 : (Cond.code ({ cls := "LoafFall", name := "lackOfPairAndCut", desc := "(III)I" } : Jvm.MethodName) prog_1_method_61_code (4 : Nat) (Option.some Jvm.ClassFile.FieldType.int)) ∈ a_gw := a_gwI 831 (by decide +kernel) rfl
theorem tw_832 : (Cond.fieldLink "LoafFall" (297 : Nat) "LoafFall" "PART_LEAST" "[I") ∈ a_gw := a_gwI 832 (by decide +kernel) rfl
theorem tw_833 : (Cond.fieldLink "LoafFall" (300 : Nat) "LoafFall" "PART_MOST" "[I") ∈ a_gw := a_gwI 833 (by decide +kernel) rfl
theorem tw_834 : (Cond.methodLink "LoafFallLaw" (127 : Nat) ({ cls := "LoafFall", name := "rack", desc := "(III)I" } : Jvm.MethodName)) ∈ a_gw := a_gwI 834 (by decide +kernel) rfl
theorem tw_835 : (Cond.instanceMethod ({ cls := "LoafFall", name := "rack", desc := "(III)I" } : Jvm.MethodName)) ∈ a_gw := a_gwI 835 (by decide +kernel) rfl
theorem tw_836 : (Cond.selects "LoafFall" ({ cls := "LoafFall", name := "rack", desc := "(III)I" } : Jvm.MethodName) ({ cls := "LoafFall", name := "rack", desc := "(III)I" } : Jvm.MethodName)) ∈ a_gw := a_gwI 836 (by decide +kernel) rfl
theorem tw_837 : (Cond.code ({ cls := "LoafFall", name := "rack", desc := "(III)I" } : Jvm.MethodName) prog_1_method_29_code (9 : Nat) (Option.some Jvm.ClassFile.FieldType.int)) ∈ a_gw := a_gwI 837 (by decide +kernel) rfl
theorem tw_838 : (Cond.fieldLink "LoafFall" (311 : Nat) "LoafFall" "RACK_OFFS" "[I") ∈ a_gw := a_gwI 838 (by decide +kernel) rfl
theorem tw_840 : (Cond.methodLink "LoafFall" (314 : Nat) ({ cls := "LoafFall$Doing", name := "shiftOvens", desc := "(I)V" } : Jvm.MethodName)) ∈ a_gw := a_gwI 840 (by decide +kernel) rfl
theorem tw_841 : (Cond.instanceMethod ({ cls := "LoafFall$Doing", name := "shiftOvens", desc := "(I)V" } : Jvm.MethodName)) ∈ a_gw := a_gwI 841 (by decide +kernel) rfl
theorem tw_842 : (Cond.selects "LoafFall$Doing" ({ cls := "LoafFall$Doing", name := "shiftOvens", desc := "(I)V" } : Jvm.MethodName) ({ cls := "LoafFall$Doing", name := "shiftOvens", desc := "(I)V" } : Jvm.MethodName)) ∈ a_gw := a_gwI 842 (by decide +kernel) rfl
theorem tw_843 : (Cond.code ({ cls := "LoafFall$Doing", name := "shiftOvens", desc := "(I)V" } : Jvm.MethodName) prog_3_method_11_code (3 : Nat) (Option.none : Option Jvm.ClassFile.FieldType)) ∈ a_gw := a_gwI 843 (by decide +kernel) rfl
theorem tw_844 : (Cond.methodLink "LoafFall$Doing" (45 : Nat) ({ cls := "java/lang/Math", name := "max", desc := "(II)I" } : Jvm.MethodName)) ∈ a_gw := a_gwI 844 (by decide +kernel) rfl
theorem tw_845 : (Cond.methodLink "LoafFallLaw" (131 : Nat) ({ cls := "LoafFall", name := "change", desc := "()I" } : Jvm.MethodName)) ∈ a_gw := a_gwI 845 (by decide +kernel) rfl
theorem tw_846 : (Cond.instanceMethod ({ cls := "LoafFall", name := "change", desc := "()I" } : Jvm.MethodName)) ∈ a_gw := a_gwI 846 (by decide +kernel) rfl
theorem tw_847 : (Cond.selects "LoafFall" ({ cls := "LoafFall", name := "change", desc := "()I" } : Jvm.MethodName) ({ cls := "LoafFall", name := "change", desc := "()I" } : Jvm.MethodName)) ∈ a_gw := a_gwI 847 (by decide +kernel) rfl
theorem tw_848 : (Cond.code ({ cls := "LoafFall", name := "change", desc := "()I" } : Jvm.MethodName) prog_1_method_30_code (5 : Nat) (Option.some Jvm.ClassFile.FieldType.int)) ∈ a_gw := a_gwI 848 (by decide +kernel) rfl
theorem tw_849 : (Cond.methodLink "LoafFall" (317 : Nat) ({ cls := "LoafFall$Doing", name := "allows", desc := "(I)Z" } : Jvm.MethodName)) ∈ a_gw := a_gwI 849 (by decide +kernel) rfl
theorem tw_850 : (Cond.instanceMethod ({ cls := "LoafFall$Doing", name := "allows", desc := "(I)Z" } : Jvm.MethodName)) ∈ a_gw := a_gwI 850 (by decide +kernel) rfl
theorem tw_851 : (Cond.selects "LoafFall$Doing" ({ cls := "LoafFall$Doing", name := "allows", desc := "(I)Z" } : Jvm.MethodName) ({ cls := "LoafFall$Doing", name := "allows", desc := "(I)Z" } : Jvm.MethodName)) ∈ a_gw := a_gwI 851 (by decide +kernel) rfl
theorem tw_852 : (Cond.code ({ cls := "LoafFall$Doing", name := "allows", desc := "(I)Z" } : Jvm.MethodName) prog_3_method_12_code (3 : Nat) (Option.some Jvm.ClassFile.FieldType.boolean)) ∈ a_gw := a_gwI 852 (by decide +kernel) rfl
theorem tw_853 : (Cond.methodLink "LoafFall$Doing" (48 : Nat) ({ cls := "LoafFall$Doing", name := "lasts", desc := "(I)Z" } : Jvm.MethodName)) ∈ a_gw := a_gwI 853 (by decide +kernel) rfl
theorem tw_854 : (Cond.methodLink "LoafFall$Doing" (52 : Nat) ({ cls := "LoafFall$Doing", name := "mayLast", desc := "(II)Z" } : Jvm.MethodName)) ∈ a_gw := a_gwI 854 (by decide +kernel) rfl
theorem tw_855 : (Cond.instanceMethod ({ cls := "LoafFall$Doing", name := "mayLast", desc := "(II)Z" } : Jvm.MethodName)) ∈ a_gw := a_gwI 855 (by decide +kernel) rfl
theorem tw_856 : (Cond.selects "LoafFall$Doing" ({ cls := "LoafFall$Doing", name := "mayLast", desc := "(II)Z" } : Jvm.MethodName) ({ cls := "LoafFall$Doing", name := "mayLast", desc := "(II)Z" } : Jvm.MethodName)) ∈ a_gw := a_gwI 856 (by decide +kernel) rfl
theorem tw_857 : (Cond.code ({ cls := "LoafFall$Doing", name := "mayLast", desc := "(II)Z" } : Jvm.MethodName) prog_3_method_7_code (3 : Nat) (Option.some Jvm.ClassFile.FieldType.boolean)) ∈ a_gw := a_gwI 857 (by decide +kernel) rfl
theorem tw_858 : (Cond.methodLink "LoafFall$Doing" (35 : Nat) ({ cls := "LoafFall$Doing", name := "turnsInAll", desc := "()I" } : Jvm.MethodName)) ∈ a_gw := a_gwI 858 (by decide +kernel) rfl
theorem tw_859 : (Cond.methodLink "LoafFall" (320 : Nat) ({ cls := "LoafFall$Doing", name := "changeBy", desc := "(I)V" } : Jvm.MethodName)) ∈ a_gw := a_gwI 859 (by decide +kernel) rfl
theorem tw_860 : (Cond.instanceMethod ({ cls := "LoafFall$Doing", name := "changeBy", desc := "(I)V" } : Jvm.MethodName)) ∈ a_gw := a_gwI 860 (by decide +kernel) rfl
theorem tw_861 : (Cond.selects "LoafFall$Doing" ({ cls := "LoafFall$Doing", name := "changeBy", desc := "(I)V" } : Jvm.MethodName) ({ cls := "LoafFall$Doing", name := "changeBy", desc := "(I)V" } : Jvm.MethodName)) ∈ a_gw := a_gwI 861 (by decide +kernel) rfl
theorem tw_862 : (Cond.code ({ cls := "LoafFall$Doing", name := "changeBy", desc := "(I)V" } : Jvm.MethodName) prog_3_method_13_code (3 : Nat) (Option.none : Option Jvm.ClassFile.FieldType)) ∈ a_gw := a_gwI 862 (by decide +kernel) rfl
theorem tw_863 : (Cond.methodLink "LoafFall$Doing" (56 : Nat) ({ cls := "LoafFall$Doing", name := "allows", desc := "(I)Z" } : Jvm.MethodName)) ∈ a_gw := a_gwI 863 (by decide +kernel) rfl
theorem tw_864 : (Cond.methodLink "LoafFall$Doing" (59 : Nat) ({ cls := "LoafFall$Doing", name := "leaveOut", desc := "(I)V" } : Jvm.MethodName)) ∈ a_gw := a_gwI 864 (by decide +kernel) rfl
theorem tw_866 : (Cond.instanceMethod ({ cls := "LoafFall$Doing", name := "leaveOut", desc := "(I)V" } : Jvm.MethodName)) ∈ a_gw := a_gwI 866 (by decide +kernel) rfl
theorem tw_867 : (Cond.code ({ cls := "LoafFall$Doing", name := "leaveOut", desc := "(I)V" } : Jvm.MethodName) prog_3_method_14_code (3 : Nat) (Option.none : Option Jvm.ClassFile.FieldType)) ∈ a_gw := a_gwI 867 (by decide +kernel) rfl
theorem tw_868 : (Cond.methodLink "LoafFallLaw" (135 : Nat) ({ cls := "LoafFall", name := "changes", desc := "()I" } : Jvm.MethodName)) ∈ a_gw := a_gwI 868 (by decide +kernel) rfl
theorem tw_869 : (Cond.instanceMethod ({ cls := "LoafFall", name := "changes", desc := "()I" } : Jvm.MethodName)) ∈ a_gw := a_gwI 869 (by decide +kernel) rfl
theorem tw_870 : (Cond.selects "LoafFall" ({ cls := "LoafFall", name := "changes", desc := "()I" } : Jvm.MethodName) ({ cls := "LoafFall", name := "changes", desc := "()I" } : Jvm.MethodName)) ∈ a_gw := a_gwI 870 (by decide +kernel) rfl
theorem tw_871 : (Cond.code ({ cls := "LoafFall", name := "changes", desc := "()I" } : Jvm.MethodName) prog_1_method_31_code (6 : Nat) (Option.some Jvm.ClassFile.FieldType.int)) ∈ a_gw := a_gwI 871 (by decide +kernel) rfl
theorem tw_872 : (Cond.methodLink "LoafFallLaw" (139 : Nat) ({ cls := "LoafFall", name := "wide", desc := "(I)I" } : Jvm.MethodName)) ∈ a_gw := a_gwI 872 (by decide +kernel) rfl
theorem tw_873 : (Cond.instanceMethod ({ cls := "LoafFall", name := "wide", desc := "(I)I" } : Jvm.MethodName)) ∈ a_gw := a_gwI 873 (by decide +kernel) rfl
theorem tw_874 : (Cond.selects "LoafFall" ({ cls := "LoafFall", name := "wide", desc := "(I)I" } : Jvm.MethodName) ({ cls := "LoafFall", name := "wide", desc := "(I)I" } : Jvm.MethodName)) ∈ a_gw := a_gwI 874 (by decide +kernel) rfl
theorem tw_875 : (Cond.code ({ cls := "LoafFall", name := "wide", desc := "(I)I" } : Jvm.MethodName) prog_1_method_32_code (5 : Nat) (Option.some Jvm.ClassFile.FieldType.int)) ∈ a_gw := a_gwI 875 (by decide +kernel) rfl
theorem tw_876 : (Cond.methodLink "LoafFall" (323 : Nat) ({ cls := "LoafFall$Doing", name := "lasts", desc := "(I)Z" } : Jvm.MethodName)) ∈ a_gw := a_gwI 876 (by decide +kernel) rfl
theorem tw_877 : (Cond.methodLink "LoafFall" (326 : Nat) ({ cls := "LoafFall$Doing", name := "mayLast", desc := "(II)Z" } : Jvm.MethodName)) ∈ a_gw := a_gwI 877 (by decide +kernel) rfl
theorem tw_878 : (Cond.methodLink "LoafFallLaw" (143 : Nat) ({ cls := "LoafFall", name := "flours", desc := "(I)I" } : Jvm.MethodName)) ∈ a_gw := a_gwI 878 (by decide +kernel) rfl
theorem tw_879 : (Cond.instanceMethod ({ cls := "LoafFall", name := "flours", desc := "(I)I" } : Jvm.MethodName)) ∈ a_gw := a_gwI 879 (by decide +kernel) rfl
theorem tw_880 : (Cond.selects "LoafFall" ({ cls := "LoafFall", name := "flours", desc := "(I)I" } : Jvm.MethodName) ({ cls := "LoafFall", name := "flours", desc := "(I)I" } : Jvm.MethodName)) ∈ a_gw := a_gwI 880 (by decide +kernel) rfl
theorem tw_881 : (Cond.code ({ cls := "LoafFall", name := "flours", desc := "(I)I" } : Jvm.MethodName) prog_1_method_33_code (8 : Nat) (Option.some Jvm.ClassFile.FieldType.int)) ∈ a_gw := a_gwI 881 (by decide +kernel) rfl
theorem tw_882 : (Cond.methodLink "LoafFallLaw" (147 : Nat) ({ cls := "LoafFall", name := "begin", desc := "(I)I" } : Jvm.MethodName)) ∈ a_gw := a_gwI 882 (by decide +kernel) rfl
theorem tw_883 : (Cond.instanceMethod ({ cls := "LoafFall", name := "begin", desc := "(I)I" } : Jvm.MethodName)) ∈ a_gw := a_gwI 883 (by decide +kernel) rfl
theorem tw_884 : (Cond.selects "LoafFall" ({ cls := "LoafFall", name := "begin", desc := "(I)I" } : Jvm.MethodName) ({ cls := "LoafFall", name := "begin", desc := "(I)I" } : Jvm.MethodName)) ∈ a_gw := a_gwI 884 (by decide +kernel) rfl
theorem tw_885 : (Cond.code ({ cls := "LoafFall", name := "begin", desc := "(I)I" } : Jvm.MethodName) prog_1_method_34_code (7 : Nat) (Option.some Jvm.ClassFile.FieldType.int)) ∈ a_gw := a_gwI 885 (by decide +kernel) rfl
theorem tw_886 : (Cond.methodLink "LoafFall" (335 : Nat) ({ cls := "LoafFall$Doing", name := "firstRest", desc := "()I" } : Jvm.MethodName)) ∈ a_gw := a_gwI 886 (by decide +kernel) rfl
theorem tw_887 : (Cond.instanceMethod ({ cls := "LoafFall$Doing", name := "firstRest", desc := "()I" } : Jvm.MethodName)) ∈ a_gw := a_gwI 887 (by decide +kernel) rfl
theorem tw_888 : (Cond.selects "LoafFall$Doing" ({ cls := "LoafFall$Doing", name := "firstRest", desc := "()I" } : Jvm.MethodName) ({ cls := "LoafFall$Doing", name := "firstRest", desc := "()I" } : Jvm.MethodName)) ∈ a_gw := a_gwI 888 (by decide +kernel) rfl
theorem tw_889 : (Cond.code ({ cls := "LoafFall$Doing", name := "firstRest", desc := "()I" } : Jvm.MethodName) prog_3_method_8_code (2 : Nat) (Option.some Jvm.ClassFile.FieldType.int)) ∈ a_gw := a_gwI 889 (by decide +kernel) rfl
theorem tw_890 : (Cond.methodLink "LoafFall" (338 : Nat) ({ cls := "LoafFall$Doing", name := "warmRests", desc := "(I)V" } : Jvm.MethodName)) ∈ a_gw := a_gwI 890 (by decide +kernel) rfl
theorem tw_891 : (Cond.instanceMethod ({ cls := "LoafFall$Doing", name := "warmRests", desc := "(I)V" } : Jvm.MethodName)) ∈ a_gw := a_gwI 891 (by decide +kernel) rfl
theorem tw_892 : (Cond.selects "LoafFall$Doing" ({ cls := "LoafFall$Doing", name := "warmRests", desc := "(I)V" } : Jvm.MethodName) ({ cls := "LoafFall$Doing", name := "warmRests", desc := "(I)V" } : Jvm.MethodName)) ∈ a_gw := a_gwI 892 (by decide +kernel) rfl
theorem tw_893 : (Cond.code ({ cls := "LoafFall$Doing", name := "warmRests", desc := "(I)V" } : Jvm.MethodName) prog_3_method_10_code (3 : Nat) (Option.none : Option Jvm.ClassFile.FieldType)) ∈ a_gw := a_gwI 893 (by decide +kernel) rfl
theorem tw_894 : (Cond.methodLink "LoafFallLaw" (151 : Nat) ({ cls := "LoafFall", name := "oven", desc := "(I)I" } : Jvm.MethodName)) ∈ a_gw := a_gwI 894 (by decide +kernel) rfl
theorem tw_895 : (Cond.instanceMethod ({ cls := "LoafFall", name := "oven", desc := "(I)I" } : Jvm.MethodName)) ∈ a_gw := a_gwI 895 (by decide +kernel) rfl
theorem tw_896 : (Cond.selects "LoafFall" ({ cls := "LoafFall", name := "oven", desc := "(I)I" } : Jvm.MethodName) ({ cls := "LoafFall", name := "oven", desc := "(I)I" } : Jvm.MethodName)) ∈ a_gw := a_gwI 896 (by decide +kernel) rfl
theorem tw_897 : (Cond.code ({ cls := "LoafFall", name := "oven", desc := "(I)I" } : Jvm.MethodName) prog_1_method_35_code (8 : Nat) (Option.some Jvm.ClassFile.FieldType.int)) ∈ a_gw := a_gwI 897 (by decide +kernel) rfl
theorem tw_898 : (Cond.methodLink "LoafFall" (341 : Nat) ({ cls := "LoafFall$Doing", name := "lastOven", desc := "()I" } : Jvm.MethodName)) ∈ a_gw := a_gwI 898 (by decide +kernel) rfl
theorem tw_899 : (Cond.instanceMethod ({ cls := "LoafFall$Doing", name := "lastOven", desc := "()I" } : Jvm.MethodName)) ∈ a_gw := a_gwI 899 (by decide +kernel) rfl
theorem tw_900 : (Cond.selects "LoafFall$Doing" ({ cls := "LoafFall$Doing", name := "lastOven", desc := "()I" } : Jvm.MethodName) ({ cls := "LoafFall$Doing", name := "lastOven", desc := "()I" } : Jvm.MethodName)) ∈ a_gw := a_gwI 900 (by decide +kernel) rfl
theorem tw_901 : (Cond.code ({ cls := "LoafFall$Doing", name := "lastOven", desc := "()I" } : Jvm.MethodName) prog_3_method_9_code (2 : Nat) (Option.some Jvm.ClassFile.FieldType.int)) ∈ a_gw := a_gwI 901 (by decide +kernel) rfl
theorem tw_902 : (Cond.methodLink "LoafFall" (344 : Nat) ({ cls := "java/lang/Math", name := "abs", desc := "(I)I" } : Jvm.MethodName)) ∈ a_gw := a_gwI 902 (by decide +kernel) rfl
theorem tw_903 : (Cond.static ({ cls := "java/lang/Math", name := "abs", desc := "(I)I" } : Jvm.MethodName)) ∈ a_gw := a_gwI 903 (by decide +kernel) rfl
theorem tw_904 : (Cond.code ({ cls := "java/lang/Math", name := "abs", desc := "(I)I" } : Jvm.MethodName) prog_15_method_59_code (1 : Nat) (Option.some Jvm.ClassFile.FieldType.int)) ∈ a_gw := a_gwI 904 (by decide +kernel) rfl
theorem tw_905 : (Cond.methodLink "LoafFallLaw" (155 : Nat) ({ cls := "LoafFall", name := "even", desc := "()I" } : Jvm.MethodName)) ∈ a_gw := a_gwI 905 (by decide +kernel) rfl
theorem tw_906 : (Cond.instanceMethod ({ cls := "LoafFall", name := "even", desc := "()I" } : Jvm.MethodName)) ∈ a_gw := a_gwI 906 (by decide +kernel) rfl
theorem tw_907 : (Cond.selects "LoafFall" ({ cls := "LoafFall", name := "even", desc := "()I" } : Jvm.MethodName) ({ cls := "LoafFall", name := "even", desc := "()I" } : Jvm.MethodName)) ∈ a_gw := a_gwI 907 (by decide +kernel) rfl
theorem tw_908 : (Cond.code ({ cls := "LoafFall", name := "even", desc := "()I" } : Jvm.MethodName) prog_1_method_36_code (7 : Nat) (Option.some Jvm.ClassFile.FieldType.int)) ∈ a_gw := a_gwI 908 (by decide +kernel) rfl
theorem tw_909 : (Cond.methodLink "LoafFall" (352 : Nat) ({ cls := "LoafFall$Dough", name := "spoiledCells", desc := "()I" } : Jvm.MethodName)) ∈ a_gw := a_gwI 909 (by decide +kernel) rfl
theorem tw_910 : (Cond.instanceMethod ({ cls := "LoafFall$Dough", name := "spoiledCells", desc := "()I" } : Jvm.MethodName)) ∈ a_gw := a_gwI 910 (by decide +kernel) rfl
theorem tw_911 : (Cond.selects "LoafFall$Dough" ({ cls := "LoafFall$Dough", name := "spoiledCells", desc := "()I" } : Jvm.MethodName) ({ cls := "LoafFall$Dough", name := "spoiledCells", desc := "()I" } : Jvm.MethodName)) ∈ a_gw := a_gwI 911 (by decide +kernel) rfl
theorem tw_912 : (Cond.code ({ cls := "LoafFall$Dough", name := "spoiledCells", desc := "()I" } : Jvm.MethodName) prog_4_method_9_code (3 : Nat) (Option.some Jvm.ClassFile.FieldType.int)) ∈ a_gw := a_gwI 912 (by decide +kernel) rfl
theorem tw_913 : (Cond.methodLink "LoafFallLaw" (159 : Nat) ({ cls := "LoafFall", name := "slip", desc := "(II)I" } : Jvm.MethodName)) ∈ a_gw := a_gwI 913 (by decide +kernel) rfl
theorem tw_914 : (Cond.instanceMethod ({ cls := "LoafFall", name := "slip", desc := "(II)I" } : Jvm.MethodName)) ∈ a_gw := a_gwI 914 (by decide +kernel) rfl
theorem tw_915 : (Cond.selects "LoafFall" ({ cls := "LoafFall", name := "slip", desc := "(II)I" } : Jvm.MethodName) ({ cls := "LoafFall", name := "slip", desc := "(II)I" } : Jvm.MethodName)) ∈ a_gw := a_gwI 915 (by decide +kernel) rfl
theorem tw_916 : (Cond.code ({ cls := "LoafFall", name := "slip", desc := "(II)I" } : Jvm.MethodName) prog_1_method_37_code (3 : Nat) (Option.some Jvm.ClassFile.FieldType.int)) ∈ a_gw := a_gwI 916 (by decide +kernel) rfl
theorem tw_917 : (Cond.methodLink "LoafFall" (356 : Nat) ({ cls := "LoafFall$Slips", name := "add", desc := "(II)V" } : Jvm.MethodName)) ∈ a_gw := a_gwI 917 (by decide +kernel) rfl
theorem tw_918 : (Cond.instanceMethod ({ cls := "LoafFall$Slips", name := "add", desc := "(II)V" } : Jvm.MethodName)) ∈ a_gw := a_gwI 918 (by decide +kernel) rfl
theorem tw_919 : (Cond.selects "LoafFall$Slips" ({ cls := "LoafFall$Slips", name := "add", desc := "(II)V" } : Jvm.MethodName) ({ cls := "LoafFall$Slips", name := "add", desc := "(II)V" } : Jvm.MethodName)) ∈ a_gw := a_gwI 919 (by decide +kernel) rfl
theorem tw_920 : (Cond.code ({ cls := "LoafFall$Slips", name := "add", desc := "(II)V" } : Jvm.MethodName) prog_11_method_2_code (3 : Nat) (Option.none : Option Jvm.ClassFile.FieldType)) ∈ a_gw := a_gwI 920 (by decide +kernel) rfl
theorem tw_921 : (Cond.methodLink "LoafFallLaw" (163 : Nat) ({ cls := "LoafFall", name := "told", desc := "(II)I" } : Jvm.MethodName)) ∈ a_gw := a_gwI 921 (by decide +kernel) rfl
theorem tw_922 : (Cond.instanceMethod ({ cls := "LoafFall", name := "told", desc := "(II)I" } : Jvm.MethodName)) ∈ a_gw := a_gwI 922 (by decide +kernel) rfl
theorem tw_923 : (Cond.selects "LoafFall" ({ cls := "LoafFall", name := "told", desc := "(II)I" } : Jvm.MethodName) ({ cls := "LoafFall", name := "told", desc := "(II)I" } : Jvm.MethodName)) ∈ a_gw := a_gwI 923 (by decide +kernel) rfl
theorem tw_924 : (Cond.code ({ cls := "LoafFall", name := "told", desc := "(II)I" } : Jvm.MethodName) prog_1_method_38_code (3 : Nat) (Option.some Jvm.ClassFile.FieldType.int)) ∈ a_gw := a_gwI 924 (by decide +kernel) rfl
theorem tw_925 : (Cond.methodLink "LoafFallLaw" (167 : Nat) ({ cls := "LoafFall", name := "law", desc := "(I)I" } : Jvm.MethodName)) ∈ a_gw := a_gwI 925 (by decide +kernel) rfl
theorem tw_926 : (Cond.instanceMethod ({ cls := "LoafFall", name := "law", desc := "(I)I" } : Jvm.MethodName)) ∈ a_gw := a_gwI 926 (by decide +kernel) rfl
theorem tw_927 : (Cond.selects "LoafFall" ({ cls := "LoafFall", name := "law", desc := "(I)I" } : Jvm.MethodName) ({ cls := "LoafFall", name := "law", desc := "(I)I" } : Jvm.MethodName)) ∈ a_gw := a_gwI 927 (by decide +kernel) rfl
theorem tw_928 : (Cond.code ({ cls := "LoafFall", name := "law", desc := "(I)I" } : Jvm.MethodName) prog_1_method_39_code (4 : Nat) (Option.some Jvm.ClassFile.FieldType.int)) ∈ a_gw := a_gwI 928 (by decide +kernel) rfl
theorem tw_929 : (Cond.methodLink "LoafFall" (364 : Nat) ({ cls := "LoafFall", name := "lackOfLaw", desc := "(I)I" } : Jvm.MethodName)) ∈ a_gw := a_gwI 929 (by decide +kernel) rfl
theorem tw_931 : (Cond.instanceMethod ({ cls := "LoafFall", name := "lackOfLaw", desc := "(I)I" } : Jvm.MethodName)) ∈ a_gw := a_gwI 931 (by decide +kernel) rfl
theorem tw_932 : (Cond.code ({ cls := "LoafFall", name := "lackOfLaw", desc := "(I)I" } : Jvm.MethodName) prog_1_method_63_code (3 : Nat) (Option.some Jvm.ClassFile.FieldType.int)) ∈ a_gw := a_gwI 932 (by decide +kernel) rfl
theorem tw_933 : (Cond.methodLink "LoafFall" (367 : Nat) ({ cls := "LoafFall", name := "bestLaw", desc := "(I)I" } : Jvm.MethodName)) ∈ a_gw := a_gwI 933 (by decide +kernel) rfl
theorem tw_935 : (Cond.instanceMethod ({ cls := "LoafFall", name := "bestLaw", desc := "(I)I" } : Jvm.MethodName)) ∈ a_gw := a_gwI 935 (by decide +kernel) rfl
theorem tw_936 : (Cond.code ({ cls := "LoafFall", name := "bestLaw", desc := "(I)I" } : Jvm.MethodName) prog_1_method_68_code (7 : Nat) (Option.some Jvm.ClassFile.FieldType.int)) ∈ a_gw := a_gwI 936 (by decide +kernel) rfl
theorem tw_937 : (Cond.methodLink "LoafFall" (376 : Nat) ({ cls := "LoafFall", name := "takeLaw", desc := "(II)V" } : Jvm.MethodName)) ∈ a_gw := a_gwI 937 (by decide +kernel) rfl
theorem tw_939 : (Cond.instanceMethod ({ cls := "LoafFall", name := "takeLaw", desc := "(II)V" } : Jvm.MethodName)) ∈ a_gw := a_gwI 939 (by decide +kernel) rfl
theorem tw_940 : (Cond.code ({ cls := "LoafFall", name := "takeLaw", desc := "(II)V" } : Jvm.MethodName) prog_1_method_67_code (3 : Nat) (Option.none : Option Jvm.ClassFile.FieldType)) ∈ a_gw := a_gwI 940 (by decide +kernel) rfl
theorem tw_941 : (Cond.methodLink "LoafFall" (370 : Nat) ({ cls := "LoafFall", name := "yeastOfLaw", desc := "(I)I" } : Jvm.MethodName)) ∈ a_gw := a_gwI 941 (by decide +kernel) rfl
theorem tw_942 : (Cond.static ({ cls := "LoafFall", name := "yeastOfLaw", desc := "(I)I" } : Jvm.MethodName)) ∈ a_gw := a_gwI 942 (by decide +kernel) rfl
theorem tw_943 : (Cond.code ({ cls := "LoafFall", name := "yeastOfLaw", desc := "(I)I" } : Jvm.MethodName) prog_1_method_65_code (1 : Nat) (Option.some Jvm.ClassFile.FieldType.int)) ∈ a_gw := a_gwI 943 (by decide +kernel) rfl
theorem tw_944 : (Cond.methodLink "LoafFall" (373 : Nat) ({ cls := "LoafFall", name := "strongOfLaw", desc := "(I)I" } : Jvm.MethodName)) ∈ a_gw := a_gwI 944 (by decide +kernel) rfl
theorem tw_945 : (Cond.static ({ cls := "LoafFall", name := "strongOfLaw", desc := "(I)I" } : Jvm.MethodName)) ∈ a_gw := a_gwI 945 (by decide +kernel) rfl
theorem tw_946 : (Cond.code ({ cls := "LoafFall", name := "strongOfLaw", desc := "(I)I" } : Jvm.MethodName) prog_1_method_66_code (1 : Nat) (Option.some Jvm.ClassFile.FieldType.int)) ∈ a_gw := a_gwI 946 (by decide +kernel) rfl
theorem tw_947 : (Cond.methodLink "LoafFall" (427 : Nat) ({ cls := "java/util/Arrays", name := "fill", desc := "([II)V" } : Jvm.MethodName)) ∈ a_gw := a_gwI 947 (by decide +kernel) rfl
theorem tw_948 : (Cond.static ({ cls := "java/util/Arrays", name := "fill", desc := "([II)V" } : Jvm.MethodName)) ∈ a_gw := a_gwI 948 (by decide +kernel) rfl
theorem tw_949 : (Cond.code ({ cls := "java/util/Arrays", name := "fill", desc := "([II)V" } : Jvm.MethodName) prog_17_method_103_code (4 : Nat) (Option.none : Option Jvm.ClassFile.FieldType)) ∈ a_gw := a_gwI 949 (by decide +kernel) rfl
theorem tw_950 : (Cond.methodLink "LoafFallLaw" (171 : Nat) ({ cls := "LoafFall", name := "spans", desc := "(IIIZ)I" } : Jvm.MethodName)) ∈ a_gw := a_gwI 950 (by decide +kernel) rfl
theorem tw_951 : (Cond.instanceMethod ({ cls := "LoafFall", name := "spans", desc := "(IIIZ)I" } : Jvm.MethodName)) ∈ a_gw := a_gwI 951 (by decide +kernel) rfl
theorem tw_952 : (Cond.selects "LoafFall" ({ cls := "LoafFall", name := "spans", desc := "(IIIZ)I" } : Jvm.MethodName) ({ cls := "LoafFall", name := "spans", desc := "(IIIZ)I" } : Jvm.MethodName)) ∈ a_gw := a_gwI 952 (by decide +kernel) rfl
theorem tw_953 : (Cond.code ({ cls := "LoafFall", name := "spans", desc := "(IIIZ)I" } : Jvm.MethodName) prog_1_method_40_code (11 : Nat) (Option.some Jvm.ClassFile.FieldType.int)) ∈ a_gw := a_gwI 953 (by decide +kernel) rfl
theorem tw_954 : (Cond.methodLink "LoafFallLaw" (176 : Nat) ({ cls := "LoafFall", name := "foretell", desc := "(II)I" } : Jvm.MethodName)) ∈ a_gw := a_gwI 954 (by decide +kernel) rfl
theorem tw_955 : (Cond.instanceMethod ({ cls := "LoafFall", name := "foretell", desc := "(II)I" } : Jvm.MethodName)) ∈ a_gw := a_gwI 955 (by decide +kernel) rfl
theorem tw_956 : (Cond.selects "LoafFall" ({ cls := "LoafFall", name := "foretell", desc := "(II)I" } : Jvm.MethodName) ({ cls := "LoafFall", name := "foretell", desc := "(II)I" } : Jvm.MethodName)) ∈ a_gw := a_gwI 956 (by decide +kernel) rfl
theorem tw_957 : (Cond.code ({ cls := "LoafFall", name := "foretell", desc := "(II)I" } : Jvm.MethodName) prog_1_method_41_code (5 : Nat) (Option.some Jvm.ClassFile.FieldType.int)) ∈ a_gw := a_gwI 957 (by decide +kernel) rfl
theorem tw_958 : (Cond.methodLink "LoafFallLaw" (180 : Nat) ({ cls := "LoafFall", name := "asked", desc := "()I" } : Jvm.MethodName)) ∈ a_gw := a_gwI 958 (by decide +kernel) rfl
theorem tw_959 : (Cond.instanceMethod ({ cls := "LoafFall", name := "asked", desc := "()I" } : Jvm.MethodName)) ∈ a_gw := a_gwI 959 (by decide +kernel) rfl
theorem tw_960 : (Cond.selects "LoafFall" ({ cls := "LoafFall", name := "asked", desc := "()I" } : Jvm.MethodName) ({ cls := "LoafFall", name := "asked", desc := "()I" } : Jvm.MethodName)) ∈ a_gw := a_gwI 960 (by decide +kernel) rfl
theorem tw_961 : (Cond.code ({ cls := "LoafFall", name := "asked", desc := "()I" } : Jvm.MethodName) prog_1_method_42_code (1 : Nat) (Option.some Jvm.ClassFile.FieldType.int)) ∈ a_gw := a_gwI 961 (by decide +kernel) rfl
theorem tw_962 : (Cond.methodLink "LoafFallLaw" (184 : Nat) ({ cls := "LoafFall", name := "upper", desc := "()J" } : Jvm.MethodName)) ∈ a_gw := a_gwI 962 (by decide +kernel) rfl
theorem tw_963 : (Cond.instanceMethod ({ cls := "LoafFall", name := "upper", desc := "()J" } : Jvm.MethodName)) ∈ a_gw := a_gwI 963 (by decide +kernel) rfl
theorem tw_964 : (Cond.selects "LoafFall" ({ cls := "LoafFall", name := "upper", desc := "()J" } : Jvm.MethodName) ({ cls := "LoafFall", name := "upper", desc := "()J" } : Jvm.MethodName)) ∈ a_gw := a_gwI 964 (by decide +kernel) rfl
theorem tw_965 : (Cond.code ({ cls := "LoafFall", name := "upper", desc := "()J" } : Jvm.MethodName) prog_1_method_43_code (1 : Nat) (Option.some Jvm.ClassFile.FieldType.long)) ∈ a_gw := a_gwI 965 (by decide +kernel) rfl
theorem tw_966 : (Cond.methodLink "LoafFallLaw" (189 : Nat) ({ cls := "LoafFall", name := "lower", desc := "()J" } : Jvm.MethodName)) ∈ a_gw := a_gwI 966 (by decide +kernel) rfl
theorem tw_967 : (Cond.instanceMethod ({ cls := "LoafFall", name := "lower", desc := "()J" } : Jvm.MethodName)) ∈ a_gw := a_gwI 967 (by decide +kernel) rfl
theorem tw_968 : (Cond.selects "LoafFall" ({ cls := "LoafFall", name := "lower", desc := "()J" } : Jvm.MethodName) ({ cls := "LoafFall", name := "lower", desc := "()J" } : Jvm.MethodName)) ∈ a_gw := a_gwI 968 (by decide +kernel) rfl
theorem tw_969 : (Cond.code ({ cls := "LoafFall", name := "lower", desc := "()J" } : Jvm.MethodName) prog_1_method_44_code (1 : Nat) (Option.some Jvm.ClassFile.FieldType.long)) ∈ a_gw := a_gwI 969 (by decide +kernel) rfl
theorem tw_970 : (Cond.methodLink "LoafFallLaw" (193 : Nat) ({ cls := "LoafFall", name := "count", desc := "(I)I" } : Jvm.MethodName)) ∈ a_gw := a_gwI 970 (by decide +kernel) rfl
theorem tw_971 : (Cond.instanceMethod ({ cls := "LoafFall", name := "count", desc := "(I)I" } : Jvm.MethodName)) ∈ a_gw := a_gwI 971 (by decide +kernel) rfl
theorem tw_972 : (Cond.selects "LoafFall" ({ cls := "LoafFall", name := "count", desc := "(I)I" } : Jvm.MethodName) ({ cls := "LoafFall", name := "count", desc := "(I)I" } : Jvm.MethodName)) ∈ a_gw := a_gwI 972 (by decide +kernel) rfl
theorem tw_973 : (Cond.code ({ cls := "LoafFall", name := "count", desc := "(I)I" } : Jvm.MethodName) prog_1_method_45_code (2 : Nat) (Option.some Jvm.ClassFile.FieldType.int)) ∈ a_gw := a_gwI 973 (by decide +kernel) rfl
theorem tw_974 : (Cond.methodLink "LoafFall" (385 : Nat) ({ cls := "LoafFall$Loaf", name := "countUndone", desc := "()I" } : Jvm.MethodName)) ∈ a_gw := a_gwI 974 (by decide +kernel) rfl
theorem tw_975 : (Cond.instanceMethod ({ cls := "LoafFall$Loaf", name := "countUndone", desc := "()I" } : Jvm.MethodName)) ∈ a_gw := a_gwI 975 (by decide +kernel) rfl
theorem tw_976 : (Cond.selects "LoafFall$Loaf" ({ cls := "LoafFall$Loaf", name := "countUndone", desc := "()I" } : Jvm.MethodName) ({ cls := "LoafFall$Loaf", name := "countUndone", desc := "()I" } : Jvm.MethodName)) ∈ a_gw := a_gwI 976 (by decide +kernel) rfl
theorem tw_977 : (Cond.code ({ cls := "LoafFall$Loaf", name := "countUndone", desc := "()I" } : Jvm.MethodName) prog_8_method_4_code (3 : Nat) (Option.some Jvm.ClassFile.FieldType.int)) ∈ a_gw := a_gwI 977 (by decide +kernel) rfl
theorem tw_978 : (Cond.methodLink "LoafFall$Loaf" (68 : Nat) ({ cls := "LoafFall$Falls", name := "isOfKind", desc := "(II)Z" } : Jvm.MethodName)) ∈ a_gw := a_gwI 978 (by decide +kernel) rfl
theorem tw_979 : (Cond.methodLink "LoafFall" (388 : Nat) ({ cls := "LoafFall", name := "countKept", desc := "()I" } : Jvm.MethodName)) ∈ a_gw := a_gwI 979 (by decide +kernel) rfl
theorem tw_981 : (Cond.instanceMethod ({ cls := "LoafFall", name := "countKept", desc := "()I" } : Jvm.MethodName)) ∈ a_gw := a_gwI 981 (by decide +kernel) rfl
theorem tw_982 : (Cond.code ({ cls := "LoafFall", name := "countKept", desc := "()I" } : Jvm.MethodName) prog_1_method_71_code (3 : Nat) (Option.some Jvm.ClassFile.FieldType.int)) ∈ a_gw := a_gwI 982 (by decide +kernel) rfl
theorem tw_983 : (Cond.methodLink "LoafFall" (391 : Nat) ({ cls := "LoafFall", name := "countRows", desc := "()I" } : Jvm.MethodName)) ∈ a_gw := a_gwI 983 (by decide +kernel) rfl
theorem tw_985 : (Cond.instanceMethod ({ cls := "LoafFall", name := "countRows", desc := "()I" } : Jvm.MethodName)) ∈ a_gw := a_gwI 985 (by decide +kernel) rfl
theorem tw_986 : (Cond.code ({ cls := "LoafFall", name := "countRows", desc := "()I" } : Jvm.MethodName) prog_1_method_72_code (3 : Nat) (Option.some Jvm.ClassFile.FieldType.int)) ∈ a_gw := a_gwI 986 (by decide +kernel) rfl
theorem tw_987 : (Cond.methodLink "LoafFall" (394 : Nat) ({ cls := "LoafFall", name := "countTexts", desc := "()I" } : Jvm.MethodName)) ∈ a_gw := a_gwI 987 (by decide +kernel) rfl
theorem tw_989 : (Cond.instanceMethod ({ cls := "LoafFall", name := "countTexts", desc := "()I" } : Jvm.MethodName)) ∈ a_gw := a_gwI 989 (by decide +kernel) rfl
theorem tw_990 : (Cond.code ({ cls := "LoafFall", name := "countTexts", desc := "()I" } : Jvm.MethodName) prog_1_method_73_code (3 : Nat) (Option.some Jvm.ClassFile.FieldType.int)) ∈ a_gw := a_gwI 990 (by decide +kernel) rfl
theorem tw_991 : (Cond.methodLink "LoafFallLaw" (197 : Nat) ({ cls := "LoafFall", name := "finding", desc := "()I" } : Jvm.MethodName)) ∈ a_gw := a_gwI 991 (by decide +kernel) rfl
theorem tw_992 : (Cond.instanceMethod ({ cls := "LoafFall", name := "finding", desc := "()I" } : Jvm.MethodName)) ∈ a_gw := a_gwI 992 (by decide +kernel) rfl
theorem tw_993 : (Cond.selects "LoafFall" ({ cls := "LoafFall", name := "finding", desc := "()I" } : Jvm.MethodName) ({ cls := "LoafFall", name := "finding", desc := "()I" } : Jvm.MethodName)) ∈ a_gw := a_gwI 993 (by decide +kernel) rfl
theorem tw_994 : (Cond.code ({ cls := "LoafFall", name := "finding", desc := "()I" } : Jvm.MethodName) prog_1_method_46_code (1 : Nat) (Option.some Jvm.ClassFile.FieldType.int)) ∈ a_gw := a_gwI 994 (by decide +kernel) rfl
theorem tw_995 : (Cond.methodLink "LoafFallLaw" (201 : Nat) ({ cls := "LoafFall", name := "findings", desc := "(I)I" } : Jvm.MethodName)) ∈ a_gw := a_gwI 995 (by decide +kernel) rfl
theorem tw_996 : (Cond.instanceMethod ({ cls := "LoafFall", name := "findings", desc := "(I)I" } : Jvm.MethodName)) ∈ a_gw := a_gwI 996 (by decide +kernel) rfl
theorem tw_997 : (Cond.selects "LoafFall" ({ cls := "LoafFall", name := "findings", desc := "(I)I" } : Jvm.MethodName) ({ cls := "LoafFall", name := "findings", desc := "(I)I" } : Jvm.MethodName)) ∈ a_gw := a_gwI 997 (by decide +kernel) rfl
theorem tw_998 : (Cond.code ({ cls := "LoafFall", name := "findings", desc := "(I)I" } : Jvm.MethodName) prog_1_method_47_code (2 : Nat) (Option.some Jvm.ClassFile.FieldType.int)) ∈ a_gw := a_gwI 998 (by decide +kernel) rfl
theorem tw_999 : (Cond.methodLink "LoafFallLaw" (205 : Nat) ({ cls := "LoafFall", name := "digest", desc := "()J" } : Jvm.MethodName)) ∈ a_gw := a_gwI 999 (by decide +kernel) rfl
theorem tw_1000 : (Cond.instanceMethod ({ cls := "LoafFall", name := "digest", desc := "()J" } : Jvm.MethodName)) ∈ a_gw := a_gwI 1000 (by decide +kernel) rfl
theorem tw_1001 : (Cond.selects "LoafFall" ({ cls := "LoafFall", name := "digest", desc := "()J" } : Jvm.MethodName) ({ cls := "LoafFall", name := "digest", desc := "()J" } : Jvm.MethodName)) ∈ a_gw := a_gwI 1001 (by decide +kernel) rfl
theorem tw_1002 : (Cond.code ({ cls := "LoafFall", name := "digest", desc := "()J" } : Jvm.MethodName) prog_1_method_48_code (4 : Nat) (Option.some Jvm.ClassFile.FieldType.long)) ∈ a_gw := a_gwI 1002 (by decide +kernel) rfl
theorem tw_1003 : (Cond.constantLong "LoafFall" (400 : Nat) (17 : Int64)) ∈ a_gw := a_gwI 1003 (by decide +kernel) rfl
theorem tw_1004 : (Cond.constantLong "LoafFall" (402 : Nat) (31 : Int64)) ∈ a_gw := a_gwI 1004 (by decide +kernel) rfl
theorem tw_1005 : (Cond.methodLink "LoafFall" (404 : Nat) ({ cls := "LoafFall", name := "count", desc := "(I)I" } : Jvm.MethodName)) ∈ a_gw := a_gwI 1005 (by decide +kernel) rfl
theorem tw_1006 : (Cond.methodLink "LoafFall" (407 : Nat) ({ cls := "LoafFall", name := "digestFlours", desc := "(J)J" } : Jvm.MethodName)) ∈ a_gw := a_gwI 1006 (by decide +kernel) rfl
theorem tw_1008 : (Cond.instanceMethod ({ cls := "LoafFall", name := "digestFlours", desc := "(J)J" } : Jvm.MethodName)) ∈ a_gw := a_gwI 1008 (by decide +kernel) rfl
theorem tw_1009 : (Cond.code ({ cls := "LoafFall", name := "digestFlours", desc := "(J)J" } : Jvm.MethodName) prog_1_method_74_code (7 : Nat) (Option.some Jvm.ClassFile.FieldType.long)) ∈ a_gw := a_gwI 1009 (by decide +kernel) rfl
theorem tw_1010 : (Cond.constantLong "LoafFall" (433 : Nat) (-1 : Int64)) ∈ a_gw := a_gwI 1010 (by decide +kernel) rfl
theorem tw_1011 : (Cond.methodLink "LoafFall" (411 : Nat) ({ cls := "LoafFall", name := "digestDoings", desc := "(J)J" } : Jvm.MethodName)) ∈ a_gw := a_gwI 1011 (by decide +kernel) rfl
theorem tw_1013 : (Cond.instanceMethod ({ cls := "LoafFall", name := "digestDoings", desc := "(J)J" } : Jvm.MethodName)) ∈ a_gw := a_gwI 1013 (by decide +kernel) rfl
theorem tw_1014 : (Cond.code ({ cls := "LoafFall", name := "digestDoings", desc := "(J)J" } : Jvm.MethodName) prog_1_method_75_code (7 : Nat) (Option.some Jvm.ClassFile.FieldType.long)) ∈ a_gw := a_gwI 1014 (by decide +kernel) rfl
theorem tw_1015 : (Cond.methodLink "LoafFall" (414 : Nat) ({ cls := "LoafFall", name := "digestLoaf", desc := "(J)J" } : Jvm.MethodName)) ∈ a_gw := a_gwI 1015 (by decide +kernel) rfl
theorem tw_1017 : (Cond.instanceMethod ({ cls := "LoafFall", name := "digestLoaf", desc := "(J)J" } : Jvm.MethodName)) ∈ a_gw := a_gwI 1017 (by decide +kernel) rfl
theorem tw_1018 : (Cond.code ({ cls := "LoafFall", name := "digestLoaf", desc := "(J)J" } : Jvm.MethodName) prog_1_method_76_code (7 : Nat) (Option.some Jvm.ClassFile.FieldType.long)) ∈ a_gw := a_gwI 1018 (by decide +kernel) rfl
theorem tw_1019 : (Cond.methodLink "LoafFall" (417 : Nat) ({ cls := "LoafFall", name := "digestRows", desc := "(J)J" } : Jvm.MethodName)) ∈ a_gw := a_gwI 1019 (by decide +kernel) rfl
theorem tw_1021 : (Cond.instanceMethod ({ cls := "LoafFall", name := "digestRows", desc := "(J)J" } : Jvm.MethodName)) ∈ a_gw := a_gwI 1021 (by decide +kernel) rfl
theorem tw_1022 : (Cond.code ({ cls := "LoafFall", name := "digestRows", desc := "(J)J" } : Jvm.MethodName) prog_1_method_77_code (7 : Nat) (Option.some Jvm.ClassFile.FieldType.long)) ∈ a_gw := a_gwI 1022 (by decide +kernel) rfl
theorem tw_1023 : (Cond.methodLink "LoafFall" (420 : Nat) ({ cls := "LoafFall", name := "digestTexts", desc := "(J)J" } : Jvm.MethodName)) ∈ a_gw := a_gwI 1023 (by decide +kernel) rfl
theorem tw_1025 : (Cond.instanceMethod ({ cls := "LoafFall", name := "digestTexts", desc := "(J)J" } : Jvm.MethodName)) ∈ a_gw := a_gwI 1025 (by decide +kernel) rfl
theorem tw_1026 : (Cond.code ({ cls := "LoafFall", name := "digestTexts", desc := "(J)J" } : Jvm.MethodName) prog_1_method_78_code (7 : Nat) (Option.some Jvm.ClassFile.FieldType.long)) ∈ a_gw := a_gwI 1026 (by decide +kernel) rfl
theorem tw_1027 : (Cond.classLink "LoafFallLaw" (10 : Nat) "LoafFallModel") ∈ a_gw := a_gwI 1027 (by decide +kernel) rfl
theorem tw_1028 : (Cond.instantiable "LoafFallModel" (33 : Nat)) ∈ a_gw := a_gwI 1028 (by decide +kernel) rfl
theorem tw_1029 : (Cond.methodLink "LoafFallLaw" (12 : Nat) ({ cls := "LoafFallModel", name := "<init>", desc := "()V" } : Jvm.MethodName)) ∈ a_gw := a_gwI 1029 (by decide +kernel) rfl
theorem tw_1030 : (Cond.instanceMethod ({ cls := "LoafFallModel", name := "<init>", desc := "()V" } : Jvm.MethodName)) ∈ a_gw := a_gwI 1030 (by decide +kernel) rfl
theorem tw_1031 : (Cond.code ({ cls := "LoafFallModel", name := "<init>", desc := "()V" } : Jvm.MethodName) prog_14_method_1_code (2 : Nat) (Option.none : Option Jvm.ClassFile.FieldType)) ∈ a_gw := a_gwI 1031 (by decide +kernel) rfl
theorem tw_1032 : (Cond.methodLink "LoafFallModel" (1 : Nat) ({ cls := "java/lang/Object", name := "<init>", desc := "()V" } : Jvm.MethodName)) ∈ a_gw := a_gwI 1032 (by decide +kernel) rfl
theorem tw_1033 : (Cond.fieldLink "LoafFallModel" (82 : Nat) "LoafFallModel" "latest" "I") ∈ a_gw := a_gwI 1033 (by decide +kernel) rfl
theorem tw_1034 : (Cond.fieldLink "LoafFallModel" (7 : Nat) "LoafFallModel" "came" "[I") ∈ a_gw := a_gwI 1034 (by decide +kernel) rfl
theorem tw_1035 : (Cond.fieldLink "LoafFallModel" (90 : Nat) "LoafFallModel" "asked" "I") ∈ a_gw := a_gwI 1035 (by decide +kernel) rfl
theorem tw_1036 : (Cond.fieldLink "LoafFallModel" (93 : Nat) "LoafFallModel" "upper" "J") ∈ a_gw := a_gwI 1036 (by decide +kernel) rfl
theorem tw_1037 : (Cond.fieldLink "LoafFallModel" (78 : Nat) "LoafFallModel" "lower" "J") ∈ a_gw := a_gwI 1037 (by decide +kernel) rfl
theorem tw_1038 : (Cond.fieldLink "LoafFallModel" (13 : Nat) "LoafFallModel" "sizes" "[I") ∈ a_gw := a_gwI 1038 (by decide +kernel) rfl
theorem tw_1039 : (Cond.fieldLink "LoafFallModel" (16 : Nat) "LoafFallModel" "rows" "[I") ∈ a_gw := a_gwI 1039 (by decide +kernel) rfl
theorem tw_1040 : (Cond.fieldLink "LoafFallModel" (19 : Nat) "LoafFallModel" "copied" "[I") ∈ a_gw := a_gwI 1040 (by decide +kernel) rfl
theorem tw_1041 : (Cond.fieldLink "LoafFallModel" (22 : Nat) "LoafFallModel" "textSizes" "[I") ∈ a_gw := a_gwI 1041 (by decide +kernel) rfl
theorem tw_1042 : (Cond.fieldLink "LoafFallModel" (25 : Nat) "LoafFallModel" "bytes" "[B") ∈ a_gw := a_gwI 1042 (by decide +kernel) rfl
theorem tw_1043 : (Cond.fieldLink "LoafFallModel" (29 : Nat) "LoafFallModel" "isFlour" "[Z") ∈ a_gw := a_gwI 1043 (by decide +kernel) rfl
theorem tw_1044 : (Cond.fieldLink "LoafFallModel" (33 : Nat) "LoafFallModel" "flours" "[I") ∈ a_gw := a_gwI 1044 (by decide +kernel) rfl
theorem tw_1045 : (Cond.fieldLink "LoafFallModel" (36 : Nat) "LoafFallModel" "isDoing" "[Z") ∈ a_gw := a_gwI 1045 (by decide +kernel) rfl
