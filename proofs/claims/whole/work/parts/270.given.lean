/-! ===== the law: what it starts from ===== -/
def nwL : List Cond := [(Jvm.Cond.count (1 : Nat)), (Jvm.Cond.isRef (Jvm.Term.arg (0 : Nat))), (Jvm.Cond.arrayOf (Jvm.Term.arg (0 : Nat)) Jvm.ClassFile.FieldType.int), (Jvm.Cond.le (Jvm.Term.length (Jvm.Term.arg (0 : Nat))) (Jvm.Term.int (320 : Int32))), (Jvm.Cond.eq (Jvm.Term.static "java/lang/String" "COMPACT_STRINGS" "Z") (Jvm.Term.int (1 : Int32))), (Jvm.Cond.isRef (Jvm.Term.static "jdk/internal/util/Preconditions" "SIOOBE_FORMATTER" "Ljava/util/function/BiFunction;")), (Jvm.Cond.eq (Jvm.Term.static "java/lang/StringUTF16" "$assertionsDisabled" "Z") (Jvm.Term.int (1 : Int32))), (Jvm.Cond.eq (Jvm.Term.static "java/lang/StringUTF16" "HI_BYTE_SHIFT" "I") (Jvm.Term.int (0 : Int32))), (Jvm.Cond.eq (Jvm.Term.static "java/lang/StringUTF16" "LO_BYTE_SHIFT" "I") (Jvm.Term.int (8 : Int32))), (Jvm.Cond.not (Jvm.Cond.castable "ThreadMoved" "ThreadMoved$State")), (Jvm.Cond.not (Jvm.Cond.castable "ThreadMoved$Plan" "ThreadMoved$State")), (Jvm.Cond.not (Jvm.Cond.castable "ThreadMoved$Reader" "ThreadMoved$State")), (Jvm.Cond.not (Jvm.Cond.castable "ThreadMoved$Notes" "ThreadMoved$State")), (Jvm.Cond.not (Jvm.Cond.castable "ThreadMoved$Search" "ThreadMoved$State")), (Jvm.Cond.not (Jvm.Cond.castable "ThreadMoved$Passages" "ThreadMoved$State")), (Jvm.Cond.not (Jvm.Cond.castable "ThreadMoved$Sheet" "ThreadMoved$State")), (Jvm.Cond.not (Jvm.Cond.castable "ThreadMovedModel" "ThreadMoved$State")), (Jvm.Cond.not (Jvm.Cond.castable "java/lang/String" "ThreadMoved$State")), (Jvm.Cond.not (Jvm.Cond.castable "ThreadMoved" "ThreadMoved$Sheet")), (Jvm.Cond.not (Jvm.Cond.castable "ThreadMoved$Plan" "ThreadMoved$Sheet")), (Jvm.Cond.not (Jvm.Cond.castable "ThreadMoved$State" "ThreadMoved$Sheet")), (Jvm.Cond.not (Jvm.Cond.castable "ThreadMoved$Reader" "ThreadMoved$Sheet")), (Jvm.Cond.not (Jvm.Cond.castable "ThreadMoved$Notes" "ThreadMoved$Sheet")), (Jvm.Cond.not (Jvm.Cond.castable "ThreadMoved$Search" "ThreadMoved$Sheet")), (Jvm.Cond.not (Jvm.Cond.castable "ThreadMoved$Passages" "ThreadMoved$Sheet")), (Jvm.Cond.not (Jvm.Cond.castable "ThreadMovedModel" "ThreadMoved$Sheet")), (Jvm.Cond.not (Jvm.Cond.castable "java/lang/String" "ThreadMoved$Sheet")), (Jvm.Cond.exactly (Jvm.Term.string "ThreadMoved$Reader" (95 : Nat)) "java/lang/String"), (Jvm.Cond.eq (Jvm.Term.field (Jvm.Term.string "ThreadMoved$Reader" (95 : Nat)) "java/lang/String" "coder" "B") (Jvm.Term.int (0 : Int32))), (Jvm.Cond.arrayOf (Jvm.Term.field (Jvm.Term.string "ThreadMoved$Reader" (95 : Nat)) "java/lang/String" "value" "[B") Jvm.ClassFile.FieldType.byte), (Jvm.Cond.eq (Jvm.Term.length (Jvm.Term.field (Jvm.Term.string "ThreadMoved$Reader" (95 : Nat)) "java/lang/String" "value" "[B")) (Jvm.Term.int (5 : Int32))), (Jvm.Cond.eq (Jvm.Term.elem (Jvm.Term.field (Jvm.Term.string "ThreadMoved$Reader" (95 : Nat)) "java/lang/String" "value" "[B") (Jvm.Term.int (0 : Int32))) (Jvm.Term.int (114 : Int32))), (Jvm.Cond.eq (Jvm.Term.elem (Jvm.Term.field (Jvm.Term.string "ThreadMoved$Reader" (95 : Nat)) "java/lang/String" "value" "[B") (Jvm.Term.int (1 : Int32))) (Jvm.Term.int (111 : Int32))), (Jvm.Cond.eq (Jvm.Term.elem (Jvm.Term.field (Jvm.Term.string "ThreadMoved$Reader" (95 : Nat)) "java/lang/String" "value" "[B") (Jvm.Term.int (2 : Int32))) (Jvm.Term.int (111 : Int32))), (Jvm.Cond.eq (Jvm.Term.elem (Jvm.Term.field (Jvm.Term.string "ThreadMoved$Reader" (95 : Nat)) "java/lang/String" "value" "[B") (Jvm.Term.int (3 : Int32))) (Jvm.Term.int (109 : Int32))), (Jvm.Cond.eq (Jvm.Term.elem (Jvm.Term.field (Jvm.Term.string "ThreadMoved$Reader" (95 : Nat)) "java/lang/String" "value" "[B") (Jvm.Term.int (4 : Int32))) (Jvm.Term.int (115 : Int32))), (Jvm.Cond.exactly (Jvm.Term.string "ThreadMoved$Reader" (110 : Nat)) "java/lang/String"), (Jvm.Cond.eq (Jvm.Term.field (Jvm.Term.string "ThreadMoved$Reader" (110 : Nat)) "java/lang/String" "coder" "B") (Jvm.Term.int (0 : Int32))), (Jvm.Cond.arrayOf (Jvm.Term.field (Jvm.Term.string "ThreadMoved$Reader" (110 : Nat)) "java/lang/String" "value" "[B") Jvm.ClassFile.FieldType.byte), (Jvm.Cond.eq (Jvm.Term.length (Jvm.Term.field (Jvm.Term.string "ThreadMoved$Reader" (110 : Nat)) "java/lang/String" "value" "[B")) (Jvm.Term.int (4 : Int32))), (Jvm.Cond.eq (Jvm.Term.elem (Jvm.Term.field (Jvm.Term.string "ThreadMoved$Reader" (110 : Nat)) "java/lang/String" "value" "[B") (Jvm.Term.int (0 : Int32))) (Jvm.Term.int (100 : Int32))), (Jvm.Cond.eq (Jvm.Term.elem (Jvm.Term.field (Jvm.Term.string "ThreadMoved$Reader" (110 : Nat)) "java/lang/String" "value" "[B") (Jvm.Term.int (1 : Int32))) (Jvm.Term.int (111 : Int32))), (Jvm.Cond.eq (Jvm.Term.elem (Jvm.Term.field (Jvm.Term.string "ThreadMoved$Reader" (110 : Nat)) "java/lang/String" "value" "[B") (Jvm.Term.int (2 : Int32))) (Jvm.Term.int (111 : Int32))), (Jvm.Cond.eq (Jvm.Term.elem (Jvm.Term.field (Jvm.Term.string "ThreadMoved$Reader" (110 : Nat)) "java/lang/String" "value" "[B") (Jvm.Term.int (3 : Int32))) (Jvm.Term.int (114 : Int32))), (Jvm.Cond.not (Jvm.Cond.eq (Jvm.Term.string "ThreadMoved$Reader" (95 : Nat)) (Jvm.Term.string "ThreadMoved$Reader" (110 : Nat)))), (Jvm.Cond.exactly (Jvm.Term.string "ThreadMoved$Reader" (115 : Nat)) "java/lang/String"), (Jvm.Cond.eq (Jvm.Term.field (Jvm.Term.string "ThreadMoved$Reader" (115 : Nat)) "java/lang/String" "coder" "B") (Jvm.Term.int (0 : Int32))), (Jvm.Cond.arrayOf (Jvm.Term.field (Jvm.Term.string "ThreadMoved$Reader" (115 : Nat)) "java/lang/String" "value" "[B") Jvm.ClassFile.FieldType.byte), (Jvm.Cond.eq (Jvm.Term.length (Jvm.Term.field (Jvm.Term.string "ThreadMoved$Reader" (115 : Nat)) "java/lang/String" "value" "[B")) (Jvm.Term.int (6 : Int32))), (Jvm.Cond.eq (Jvm.Term.elem (Jvm.Term.field (Jvm.Term.string "ThreadMoved$Reader" (115 : Nat)) "java/lang/String" "value" "[B") (Jvm.Term.int (0 : Int32))) (Jvm.Term.int (112 : Int32))), (Jvm.Cond.eq (Jvm.Term.elem (Jvm.Term.field (Jvm.Term.string "ThreadMoved$Reader" (115 : Nat)) "java/lang/String" "value" "[B") (Jvm.Term.int (1 : Int32))) (Jvm.Term.int (101 : Int32))), (Jvm.Cond.eq (Jvm.Term.elem (Jvm.Term.field (Jvm.Term.string "ThreadMoved$Reader" (115 : Nat)) "java/lang/String" "value" "[B") (Jvm.Term.int (2 : Int32))) (Jvm.Term.int (114 : Int32))), (Jvm.Cond.eq (Jvm.Term.elem (Jvm.Term.field (Jvm.Term.string "ThreadMoved$Reader" (115 : Nat)) "java/lang/String" "value" "[B") (Jvm.Term.int (3 : Int32))) (Jvm.Term.int (105 : Int32))), (Jvm.Cond.eq (Jvm.Term.elem (Jvm.Term.field (Jvm.Term.string "ThreadMoved$Reader" (115 : Nat)) "java/lang/String" "value" "[B") (Jvm.Term.int (4 : Int32))) (Jvm.Term.int (111 : Int32))), (Jvm.Cond.eq (Jvm.Term.elem (Jvm.Term.field (Jvm.Term.string "ThreadMoved$Reader" (115 : Nat)) "java/lang/String" "value" "[B") (Jvm.Term.int (5 : Int32))) (Jvm.Term.int (100 : Int32))), (Jvm.Cond.not (Jvm.Cond.eq (Jvm.Term.string "ThreadMoved$Reader" (95 : Nat)) (Jvm.Term.string "ThreadMoved$Reader" (115 : Nat)))), (Jvm.Cond.not (Jvm.Cond.eq (Jvm.Term.string "ThreadMoved$Reader" (110 : Nat)) (Jvm.Term.string "ThreadMoved$Reader" (115 : Nat)))), (Jvm.Cond.exactly (Jvm.Term.string "ThreadMoved$Reader" (119 : Nat)) "java/lang/String"), (Jvm.Cond.eq (Jvm.Term.field (Jvm.Term.string "ThreadMoved$Reader" (119 : Nat)) "java/lang/String" "coder" "B") (Jvm.Term.int (0 : Int32))), (Jvm.Cond.arrayOf (Jvm.Term.field (Jvm.Term.string "ThreadMoved$Reader" (119 : Nat)) "java/lang/String" "value" "[B") Jvm.ClassFile.FieldType.byte), (Jvm.Cond.eq (Jvm.Term.length (Jvm.Term.field (Jvm.Term.string "ThreadMoved$Reader" (119 : Nat)) "java/lang/String" "value" "[B")) (Jvm.Term.int (4 : Int32))), (Jvm.Cond.eq (Jvm.Term.elem (Jvm.Term.field (Jvm.Term.string "ThreadMoved$Reader" (119 : Nat)) "java/lang/String" "value" "[B") (Jvm.Term.int (0 : Int32))) (Jvm.Term.int (115 : Int32))), (Jvm.Cond.eq (Jvm.Term.elem (Jvm.Term.field (Jvm.Term.string "ThreadMoved$Reader" (119 : Nat)) "java/lang/String" "value" "[B") (Jvm.Term.int (1 : Int32))) (Jvm.Term.int (119 : Int32))), (Jvm.Cond.eq (Jvm.Term.elem (Jvm.Term.field (Jvm.Term.string "ThreadMoved$Reader" (119 : Nat)) "java/lang/String" "value" "[B") (Jvm.Term.int (2 : Int32))) (Jvm.Term.int (97 : Int32))), (Jvm.Cond.eq (Jvm.Term.elem (Jvm.Term.field (Jvm.Term.string "ThreadMoved$Reader" (119 : Nat)) "java/lang/String" "value" "[B") (Jvm.Term.int (3 : Int32))) (Jvm.Term.int (112 : Int32))), (Jvm.Cond.not (Jvm.Cond.eq (Jvm.Term.string "ThreadMoved$Reader" (95 : Nat)) (Jvm.Term.string "ThreadMoved$Reader" (119 : Nat)))), (Jvm.Cond.not (Jvm.Cond.eq (Jvm.Term.string "ThreadMoved$Reader" (110 : Nat)) (Jvm.Term.string "ThreadMoved$Reader" (119 : Nat)))), (Jvm.Cond.not (Jvm.Cond.eq (Jvm.Term.string "ThreadMoved$Reader" (115 : Nat)) (Jvm.Term.string "ThreadMoved$Reader" (119 : Nat)))), (Jvm.Cond.exactly (Jvm.Term.string "ThreadMoved$Reader" (124 : Nat)) "java/lang/String"), (Jvm.Cond.eq (Jvm.Term.field (Jvm.Term.string "ThreadMoved$Reader" (124 : Nat)) "java/lang/String" "coder" "B") (Jvm.Term.int (0 : Int32))), (Jvm.Cond.arrayOf (Jvm.Term.field (Jvm.Term.string "ThreadMoved$Reader" (124 : Nat)) "java/lang/String" "value" "[B") Jvm.ClassFile.FieldType.byte), (Jvm.Cond.eq (Jvm.Term.length (Jvm.Term.field (Jvm.Term.string "ThreadMoved$Reader" (124 : Nat)) "java/lang/String" "value" "[B")) (Jvm.Term.int (4 : Int32))), (Jvm.Cond.eq (Jvm.Term.elem (Jvm.Term.field (Jvm.Term.string "ThreadMoved$Reader" (124 : Nat)) "java/lang/String" "value" "[B") (Jvm.Term.int (0 : Int32))) (Jvm.Term.int (116 : Int32))), (Jvm.Cond.eq (Jvm.Term.elem (Jvm.Term.field (Jvm.Term.string "ThreadMoved$Reader" (124 : Nat)) "java/lang/String" "value" "[B") (Jvm.Term.int (1 : Int32))) (Jvm.Term.int (117 : Int32))), (Jvm.Cond.eq (Jvm.Term.elem (Jvm.Term.field (Jvm.Term.string "ThreadMoved$Reader" (124 : Nat)) "java/lang/String" "value" "[B") (Jvm.Term.int (2 : Int32))) (Jvm.Term.int (114 : Int32))), (Jvm.Cond.eq (Jvm.Term.elem (Jvm.Term.field (Jvm.Term.string "ThreadMoved$Reader" (124 : Nat)) "java/lang/String" "value" "[B") (Jvm.Term.int (3 : Int32))) (Jvm.Term.int (110 : Int32))), (Jvm.Cond.not (Jvm.Cond.eq (Jvm.Term.string "ThreadMoved$Reader" (95 : Nat)) (Jvm.Term.string "ThreadMoved$Reader" (124 : Nat)))), (Jvm.Cond.not (Jvm.Cond.eq (Jvm.Term.string "ThreadMoved$Reader" (110 : Nat)) (Jvm.Term.string "ThreadMoved$Reader" (124 : Nat)))), (Jvm.Cond.not (Jvm.Cond.eq (Jvm.Term.string "ThreadMoved$Reader" (115 : Nat)) (Jvm.Term.string "ThreadMoved$Reader" (124 : Nat)))), (Jvm.Cond.not (Jvm.Cond.eq (Jvm.Term.string "ThreadMoved$Reader" (119 : Nat)) (Jvm.Term.string "ThreadMoved$Reader" (124 : Nat)))), (Jvm.Cond.exactly (Jvm.Term.string "ThreadMoved$Reader" (126 : Nat)) "java/lang/String"), (Jvm.Cond.eq (Jvm.Term.field (Jvm.Term.string "ThreadMoved$Reader" (126 : Nat)) "java/lang/String" "coder" "B") (Jvm.Term.int (0 : Int32))), (Jvm.Cond.arrayOf (Jvm.Term.field (Jvm.Term.string "ThreadMoved$Reader" (126 : Nat)) "java/lang/String" "value" "[B") Jvm.ClassFile.FieldType.byte), (Jvm.Cond.eq (Jvm.Term.length (Jvm.Term.field (Jvm.Term.string "ThreadMoved$Reader" (126 : Nat)) "java/lang/String" "value" "[B")) (Jvm.Term.int (3 : Int32))), (Jvm.Cond.eq (Jvm.Term.elem (Jvm.Term.field (Jvm.Term.string "ThreadMoved$Reader" (126 : Nat)) "java/lang/String" "value" "[B") (Jvm.Term.int (0 : Int32))) (Jvm.Term.int (98 : Int32))), (Jvm.Cond.eq (Jvm.Term.elem (Jvm.Term.field (Jvm.Term.string "ThreadMoved$Reader" (126 : Nat)) "java/lang/String" "value" "[B") (Jvm.Term.int (1 : Int32))) (Jvm.Term.int (97 : Int32))), (Jvm.Cond.eq (Jvm.Term.elem (Jvm.Term.field (Jvm.Term.string "ThreadMoved$Reader" (126 : Nat)) "java/lang/String" "value" "[B") (Jvm.Term.int (2 : Int32))) (Jvm.Term.int (114 : Int32))), (Jvm.Cond.not (Jvm.Cond.eq (Jvm.Term.string "ThreadMoved$Reader" (95 : Nat)) (Jvm.Term.string "ThreadMoved$Reader" (126 : Nat)))), (Jvm.Cond.not (Jvm.Cond.eq (Jvm.Term.string "ThreadMoved$Reader" (110 : Nat)) (Jvm.Term.string "ThreadMoved$Reader" (126 : Nat)))), (Jvm.Cond.not (Jvm.Cond.eq (Jvm.Term.string "ThreadMoved$Reader" (115 : Nat)) (Jvm.Term.string "ThreadMoved$Reader" (126 : Nat)))), (Jvm.Cond.not (Jvm.Cond.eq (Jvm.Term.string "ThreadMoved$Reader" (119 : Nat)) (Jvm.Term.string "ThreadMoved$Reader" (126 : Nat)))), (Jvm.Cond.not (Jvm.Cond.eq (Jvm.Term.string "ThreadMoved$Reader" (124 : Nat)) (Jvm.Term.string "ThreadMoved$Reader" (126 : Nat)))), (Jvm.Cond.exactly (Jvm.Term.string "ThreadMoved$Reader" (128 : Nat)) "java/lang/String"), (Jvm.Cond.eq (Jvm.Term.field (Jvm.Term.string "ThreadMoved$Reader" (128 : Nat)) "java/lang/String" "coder" "B") (Jvm.Term.int (0 : Int32))), (Jvm.Cond.arrayOf (Jvm.Term.field (Jvm.Term.string "ThreadMoved$Reader" (128 : Nat)) "java/lang/String" "value" "[B") Jvm.ClassFile.FieldType.byte), (Jvm.Cond.eq (Jvm.Term.length (Jvm.Term.field (Jvm.Term.string "ThreadMoved$Reader" (128 : Nat)) "java/lang/String" "value" "[B")) (Jvm.Term.int (2 : Int32))), (Jvm.Cond.eq (Jvm.Term.elem (Jvm.Term.field (Jvm.Term.string "ThreadMoved$Reader" (128 : Nat)) "java/lang/String" "value" "[B") (Jvm.Term.int (0 : Int32))) (Jvm.Term.int (105 : Int32))), (Jvm.Cond.eq (Jvm.Term.elem (Jvm.Term.field (Jvm.Term.string "ThreadMoved$Reader" (128 : Nat)) "java/lang/String" "value" "[B") (Jvm.Term.int (1 : Int32))) (Jvm.Term.int (110 : Int32))), (Jvm.Cond.not (Jvm.Cond.eq (Jvm.Term.string "ThreadMoved$Reader" (95 : Nat)) (Jvm.Term.string "ThreadMoved$Reader" (128 : Nat)))), (Jvm.Cond.not (Jvm.Cond.eq (Jvm.Term.string "ThreadMoved$Reader" (110 : Nat)) (Jvm.Term.string "ThreadMoved$Reader" (128 : Nat)))), (Jvm.Cond.not (Jvm.Cond.eq (Jvm.Term.string "ThreadMoved$Reader" (115 : Nat)) (Jvm.Term.string "ThreadMoved$Reader" (128 : Nat)))), (Jvm.Cond.not (Jvm.Cond.eq (Jvm.Term.string "ThreadMoved$Reader" (119 : Nat)) (Jvm.Term.string "ThreadMoved$Reader" (128 : Nat)))), (Jvm.Cond.not (Jvm.Cond.eq (Jvm.Term.string "ThreadMoved$Reader" (124 : Nat)) (Jvm.Term.string "ThreadMoved$Reader" (128 : Nat)))), (Jvm.Cond.not (Jvm.Cond.eq (Jvm.Term.string "ThreadMoved$Reader" (126 : Nat)) (Jvm.Term.string "ThreadMoved$Reader" (128 : Nat)))), (Jvm.Cond.exactly (Jvm.Term.string "ThreadMoved$Reader" (133 : Nat)) "java/lang/String"), (Jvm.Cond.eq (Jvm.Term.field (Jvm.Term.string "ThreadMoved$Reader" (133 : Nat)) "java/lang/String" "coder" "B") (Jvm.Term.int (0 : Int32))), (Jvm.Cond.arrayOf (Jvm.Term.field (Jvm.Term.string "ThreadMoved$Reader" (133 : Nat)) "java/lang/String" "value" "[B") Jvm.ClassFile.FieldType.byte), (Jvm.Cond.eq (Jvm.Term.length (Jvm.Term.field (Jvm.Term.string "ThreadMoved$Reader" (133 : Nat)) "java/lang/String" "value" "[B")) (Jvm.Term.int (5 : Int32))), (Jvm.Cond.eq (Jvm.Term.elem (Jvm.Term.field (Jvm.Term.string "ThreadMoved$Reader" (133 : Nat)) "java/lang/String" "value" "[B") (Jvm.Term.int (0 : Int32))) (Jvm.Term.int (98 : Int32))), (Jvm.Cond.eq (Jvm.Term.elem (Jvm.Term.field (Jvm.Term.string "ThreadMoved$Reader" (133 : Nat)) "java/lang/String" "value" "[B") (Jvm.Term.int (1 : Int32))) (Jvm.Term.int (101 : Int32))), (Jvm.Cond.eq (Jvm.Term.elem (Jvm.Term.field (Jvm.Term.string "ThreadMoved$Reader" (133 : Nat)) "java/lang/String" "value" "[B") (Jvm.Term.int (2 : Int32))) (Jvm.Term.int (97 : Int32))), (Jvm.Cond.eq (Jvm.Term.elem (Jvm.Term.field (Jvm.Term.string "ThreadMoved$Reader" (133 : Nat)) "java/lang/String" "value" "[B") (Jvm.Term.int (3 : Int32))) (Jvm.Term.int (115 : Int32))), (Jvm.Cond.eq (Jvm.Term.elem (Jvm.Term.field (Jvm.Term.string "ThreadMoved$Reader" (133 : Nat)) "java/lang/String" "value" "[B") (Jvm.Term.int (4 : Int32))) (Jvm.Term.int (116 : Int32))), (Jvm.Cond.not (Jvm.Cond.eq (Jvm.Term.string "ThreadMoved$Reader" (95 : Nat)) (Jvm.Term.string "ThreadMoved$Reader" (133 : Nat)))), (Jvm.Cond.not (Jvm.Cond.eq (Jvm.Term.string "ThreadMoved$Reader" (110 : Nat)) (Jvm.Term.string "ThreadMoved$Reader" (133 : Nat)))), (Jvm.Cond.not (Jvm.Cond.eq (Jvm.Term.string "ThreadMoved$Reader" (115 : Nat)) (Jvm.Term.string "ThreadMoved$Reader" (133 : Nat)))), (Jvm.Cond.not (Jvm.Cond.eq (Jvm.Term.string "ThreadMoved$Reader" (119 : Nat)) (Jvm.Term.string "ThreadMoved$Reader" (133 : Nat)))), (Jvm.Cond.not (Jvm.Cond.eq (Jvm.Term.string "ThreadMoved$Reader" (124 : Nat)) (Jvm.Term.string "ThreadMoved$Reader" (133 : Nat)))), (Jvm.Cond.not (Jvm.Cond.eq (Jvm.Term.string "ThreadMoved$Reader" (126 : Nat)) (Jvm.Term.string "ThreadMoved$Reader" (133 : Nat)))), (Jvm.Cond.not (Jvm.Cond.eq (Jvm.Term.string "ThreadMoved$Reader" (128 : Nat)) (Jvm.Term.string "ThreadMoved$Reader" (133 : Nat)))), (Jvm.Cond.exactly (Jvm.Term.string "ThreadMoved$Reader" (169 : Nat)) "java/lang/String"), (Jvm.Cond.eq (Jvm.Term.field (Jvm.Term.string "ThreadMoved$Reader" (169 : Nat)) "java/lang/String" "coder" "B") (Jvm.Term.int (0 : Int32))), (Jvm.Cond.arrayOf (Jvm.Term.field (Jvm.Term.string "ThreadMoved$Reader" (169 : Nat)) "java/lang/String" "value" "[B") Jvm.ClassFile.FieldType.byte), (Jvm.Cond.eq (Jvm.Term.length (Jvm.Term.field (Jvm.Term.string "ThreadMoved$Reader" (169 : Nat)) "java/lang/String" "value" "[B")) (Jvm.Term.int (6 : Int32))), (Jvm.Cond.eq (Jvm.Term.elem (Jvm.Term.field (Jvm.Term.string "ThreadMoved$Reader" (169 : Nat)) "java/lang/String" "value" "[B") (Jvm.Term.int (0 : Int32))) (Jvm.Term.int (115 : Int32))), (Jvm.Cond.eq (Jvm.Term.elem (Jvm.Term.field (Jvm.Term.string "ThreadMoved$Reader" (169 : Nat)) "java/lang/String" "value" "[B") (Jvm.Term.int (1 : Int32))) (Jvm.Term.int (108 : Int32))), (Jvm.Cond.eq (Jvm.Term.elem (Jvm.Term.field (Jvm.Term.string "ThreadMoved$Reader" (169 : Nat)) "java/lang/String" "value" "[B") (Jvm.Term.int (2 : Int32))) (Jvm.Term.int (101 : Int32))), (Jvm.Cond.eq (Jvm.Term.elem (Jvm.Term.field (Jvm.Term.string "ThreadMoved$Reader" (169 : Nat)) "java/lang/String" "value" "[B") (Jvm.Term.int (3 : Int32))) (Jvm.Term.int (101 : Int32))), (Jvm.Cond.eq (Jvm.Term.elem (Jvm.Term.field (Jvm.Term.string "ThreadMoved$Reader" (169 : Nat)) "java/lang/String" "value" "[B") (Jvm.Term.int (4 : Int32))) (Jvm.Term.int (112 : Int32))), (Jvm.Cond.eq (Jvm.Term.elem (Jvm.Term.field (Jvm.Term.string "ThreadMoved$Reader" (169 : Nat)) "java/lang/String" "value" "[B") (Jvm.Term.int (5 : Int32))) (Jvm.Term.int (115 : Int32))), (Jvm.Cond.not (Jvm.Cond.eq (Jvm.Term.string "ThreadMoved$Reader" (95 : Nat)) (Jvm.Term.string "ThreadMoved$Reader" (169 : Nat)))), (Jvm.Cond.not (Jvm.Cond.eq (Jvm.Term.string "ThreadMoved$Reader" (110 : Nat)) (Jvm.Term.string "ThreadMoved$Reader" (169 : Nat)))), (Jvm.Cond.not (Jvm.Cond.eq (Jvm.Term.string "ThreadMoved$Reader" (115 : Nat)) (Jvm.Term.string "ThreadMoved$Reader" (169 : Nat)))), (Jvm.Cond.not (Jvm.Cond.eq (Jvm.Term.string "ThreadMoved$Reader" (119 : Nat)) (Jvm.Term.string "ThreadMoved$Reader" (169 : Nat)))), (Jvm.Cond.not (Jvm.Cond.eq (Jvm.Term.string "ThreadMoved$Reader" (124 : Nat)) (Jvm.Term.string "ThreadMoved$Reader" (169 : Nat)))), (Jvm.Cond.not (Jvm.Cond.eq (Jvm.Term.string "ThreadMoved$Reader" (126 : Nat)) (Jvm.Term.string "ThreadMoved$Reader" (169 : Nat)))), (Jvm.Cond.not (Jvm.Cond.eq (Jvm.Term.string "ThreadMoved$Reader" (128 : Nat)) (Jvm.Term.string "ThreadMoved$Reader" (169 : Nat)))), (Jvm.Cond.not (Jvm.Cond.eq (Jvm.Term.string "ThreadMoved$Reader" (133 : Nat)) (Jvm.Term.string "ThreadMoved$Reader" (169 : Nat)))), (Jvm.Cond.exactly (Jvm.Term.string "ThreadMoved$Reader" (174 : Nat)) "java/lang/String"), (Jvm.Cond.eq (Jvm.Term.field (Jvm.Term.string "ThreadMoved$Reader" (174 : Nat)) "java/lang/String" "coder" "B") (Jvm.Term.int (0 : Int32))), (Jvm.Cond.arrayOf (Jvm.Term.field (Jvm.Term.string "ThreadMoved$Reader" (174 : Nat)) "java/lang/String" "value" "[B") Jvm.ClassFile.FieldType.byte), (Jvm.Cond.eq (Jvm.Term.length (Jvm.Term.field (Jvm.Term.string "ThreadMoved$Reader" (174 : Nat)) "java/lang/String" "value" "[B")) (Jvm.Term.int (4 : Int32))), (Jvm.Cond.eq (Jvm.Term.elem (Jvm.Term.field (Jvm.Term.string "ThreadMoved$Reader" (174 : Nat)) "java/lang/String" "value" "[B") (Jvm.Term.int (0 : Int32))) (Jvm.Term.int (108 : Int32))), (Jvm.Cond.eq (Jvm.Term.elem (Jvm.Term.field (Jvm.Term.string "ThreadMoved$Reader" (174 : Nat)) "java/lang/String" "value" "[B") (Jvm.Term.int (1 : Int32))) (Jvm.Term.int (101 : Int32))), (Jvm.Cond.eq (Jvm.Term.elem (Jvm.Term.field (Jvm.Term.string "ThreadMoved$Reader" (174 : Nat)) "java/lang/String" "value" "[B") (Jvm.Term.int (2 : Int32))) (Jvm.Term.int (102 : Int32))), (Jvm.Cond.eq (Jvm.Term.elem (Jvm.Term.field (Jvm.Term.string "ThreadMoved$Reader" (174 : Nat)) "java/lang/String" "value" "[B") (Jvm.Term.int (3 : Int32))) (Jvm.Term.int (116 : Int32))), (Jvm.Cond.not (Jvm.Cond.eq (Jvm.Term.string "ThreadMoved$Reader" (95 : Nat)) (Jvm.Term.string "ThreadMoved$Reader" (174 : Nat)))), (Jvm.Cond.not (Jvm.Cond.eq (Jvm.Term.string "ThreadMoved$Reader" (110 : Nat)) (Jvm.Term.string "ThreadMoved$Reader" (174 : Nat)))), (Jvm.Cond.not (Jvm.Cond.eq (Jvm.Term.string "ThreadMoved$Reader" (115 : Nat)) (Jvm.Term.string "ThreadMoved$Reader" (174 : Nat)))), (Jvm.Cond.not (Jvm.Cond.eq (Jvm.Term.string "ThreadMoved$Reader" (119 : Nat)) (Jvm.Term.string "ThreadMoved$Reader" (174 : Nat)))), (Jvm.Cond.not (Jvm.Cond.eq (Jvm.Term.string "ThreadMoved$Reader" (124 : Nat)) (Jvm.Term.string "ThreadMoved$Reader" (174 : Nat)))), (Jvm.Cond.not (Jvm.Cond.eq (Jvm.Term.string "ThreadMoved$Reader" (126 : Nat)) (Jvm.Term.string "ThreadMoved$Reader" (174 : Nat)))), (Jvm.Cond.not (Jvm.Cond.eq (Jvm.Term.string "ThreadMoved$Reader" (128 : Nat)) (Jvm.Term.string "ThreadMoved$Reader" (174 : Nat)))), (Jvm.Cond.not (Jvm.Cond.eq (Jvm.Term.string "ThreadMoved$Reader" (133 : Nat)) (Jvm.Term.string "ThreadMoved$Reader" (174 : Nat)))), (Jvm.Cond.not (Jvm.Cond.eq (Jvm.Term.string "ThreadMoved$Reader" (169 : Nat)) (Jvm.Term.string "ThreadMoved$Reader" (174 : Nat)))), (Jvm.Cond.exactly (Jvm.Term.string "ThreadMoved$Reader" (176 : Nat)) "java/lang/String"), (Jvm.Cond.eq (Jvm.Term.field (Jvm.Term.string "ThreadMoved$Reader" (176 : Nat)) "java/lang/String" "coder" "B") (Jvm.Term.int (0 : Int32))), (Jvm.Cond.arrayOf (Jvm.Term.field (Jvm.Term.string "ThreadMoved$Reader" (176 : Nat)) "java/lang/String" "value" "[B") Jvm.ClassFile.FieldType.byte), (Jvm.Cond.eq (Jvm.Term.length (Jvm.Term.field (Jvm.Term.string "ThreadMoved$Reader" (176 : Nat)) "java/lang/String" "value" "[B")) (Jvm.Term.int (6 : Int32))), (Jvm.Cond.eq (Jvm.Term.elem (Jvm.Term.field (Jvm.Term.string "ThreadMoved$Reader" (176 : Nat)) "java/lang/String" "value" "[B") (Jvm.Term.int (0 : Int32))) (Jvm.Term.int (104 : Int32))), (Jvm.Cond.eq (Jvm.Term.elem (Jvm.Term.field (Jvm.Term.string "ThreadMoved$Reader" (176 : Nat)) "java/lang/String" "value" "[B") (Jvm.Term.int (1 : Int32))) (Jvm.Term.int (117 : Int32))), (Jvm.Cond.eq (Jvm.Term.elem (Jvm.Term.field (Jvm.Term.string "ThreadMoved$Reader" (176 : Nat)) "java/lang/String" "value" "[B") (Jvm.Term.int (2 : Int32))) (Jvm.Term.int (110 : Int32))), (Jvm.Cond.eq (Jvm.Term.elem (Jvm.Term.field (Jvm.Term.string "ThreadMoved$Reader" (176 : Nat)) "java/lang/String" "value" "[B") (Jvm.Term.int (3 : Int32))) (Jvm.Term.int (103 : Int32))), (Jvm.Cond.eq (Jvm.Term.elem (Jvm.Term.field (Jvm.Term.string "ThreadMoved$Reader" (176 : Nat)) "java/lang/String" "value" "[B") (Jvm.Term.int (4 : Int32))) (Jvm.Term.int (114 : Int32))), (Jvm.Cond.eq (Jvm.Term.elem (Jvm.Term.field (Jvm.Term.string "ThreadMoved$Reader" (176 : Nat)) "java/lang/String" "value" "[B") (Jvm.Term.int (5 : Int32))) (Jvm.Term.int (121 : Int32))), (Jvm.Cond.not (Jvm.Cond.eq (Jvm.Term.string "ThreadMoved$Reader" (95 : Nat)) (Jvm.Term.string "ThreadMoved$Reader" (176 : Nat)))), (Jvm.Cond.not (Jvm.Cond.eq (Jvm.Term.string "ThreadMoved$Reader" (110 : Nat)) (Jvm.Term.string "ThreadMoved$Reader" (176 : Nat)))), (Jvm.Cond.not (Jvm.Cond.eq (Jvm.Term.string "ThreadMoved$Reader" (115 : Nat)) (Jvm.Term.string "ThreadMoved$Reader" (176 : Nat)))), (Jvm.Cond.not (Jvm.Cond.eq (Jvm.Term.string "ThreadMoved$Reader" (119 : Nat)) (Jvm.Term.string "ThreadMoved$Reader" (176 : Nat)))), (Jvm.Cond.not (Jvm.Cond.eq (Jvm.Term.string "ThreadMoved$Reader" (124 : Nat)) (Jvm.Term.string "ThreadMoved$Reader" (176 : Nat)))), (Jvm.Cond.not (Jvm.Cond.eq (Jvm.Term.string "ThreadMoved$Reader" (126 : Nat)) (Jvm.Term.string "ThreadMoved$Reader" (176 : Nat)))), (Jvm.Cond.not (Jvm.Cond.eq (Jvm.Term.string "ThreadMoved$Reader" (128 : Nat)) (Jvm.Term.string "ThreadMoved$Reader" (176 : Nat)))), (Jvm.Cond.not (Jvm.Cond.eq (Jvm.Term.string "ThreadMoved$Reader" (133 : Nat)) (Jvm.Term.string "ThreadMoved$Reader" (176 : Nat)))), (Jvm.Cond.not (Jvm.Cond.eq (Jvm.Term.string "ThreadMoved$Reader" (169 : Nat)) (Jvm.Term.string "ThreadMoved$Reader" (176 : Nat)))), (Jvm.Cond.not (Jvm.Cond.eq (Jvm.Term.string "ThreadMoved$Reader" (174 : Nat)) (Jvm.Term.string "ThreadMoved$Reader" (176 : Nat)))), (Jvm.Cond.exactly (Jvm.Term.string "ThreadMoved$Reader" (178 : Nat)) "java/lang/String"), (Jvm.Cond.eq (Jvm.Term.field (Jvm.Term.string "ThreadMoved$Reader" (178 : Nat)) "java/lang/String" "coder" "B") (Jvm.Term.int (0 : Int32))), (Jvm.Cond.arrayOf (Jvm.Term.field (Jvm.Term.string "ThreadMoved$Reader" (178 : Nat)) "java/lang/String" "value" "[B") Jvm.ClassFile.FieldType.byte), (Jvm.Cond.eq (Jvm.Term.length (Jvm.Term.field (Jvm.Term.string "ThreadMoved$Reader" (178 : Nat)) "java/lang/String" "value" "[B")) (Jvm.Term.int (5 : Int32))), (Jvm.Cond.eq (Jvm.Term.elem (Jvm.Term.field (Jvm.Term.string "ThreadMoved$Reader" (178 : Nat)) "java/lang/String" "value" "[B") (Jvm.Term.int (0 : Int32))) (Jvm.Term.int (116 : Int32))), (Jvm.Cond.eq (Jvm.Term.elem (Jvm.Term.field (Jvm.Term.string "ThreadMoved$Reader" (178 : Nat)) "java/lang/String" "value" "[B") (Jvm.Term.int (1 : Int32))) (Jvm.Term.int (117 : Int32))), (Jvm.Cond.eq (Jvm.Term.elem (Jvm.Term.field (Jvm.Term.string "ThreadMoved$Reader" (178 : Nat)) "java/lang/String" "value" "[B") (Jvm.Term.int (2 : Int32))) (Jvm.Term.int (114 : Int32))), (Jvm.Cond.eq (Jvm.Term.elem (Jvm.Term.field (Jvm.Term.string "ThreadMoved$Reader" (178 : Nat)) "java/lang/String" "value" "[B") (Jvm.Term.int (3 : Int32))) (Jvm.Term.int (110 : Int32))), (Jvm.Cond.eq (Jvm.Term.elem (Jvm.Term.field (Jvm.Term.string "ThreadMoved$Reader" (178 : Nat)) "java/lang/String" "value" "[B") (Jvm.Term.int (4 : Int32))) (Jvm.Term.int (115 : Int32))), (Jvm.Cond.not (Jvm.Cond.eq (Jvm.Term.string "ThreadMoved$Reader" (95 : Nat)) (Jvm.Term.string "ThreadMoved$Reader" (178 : Nat)))), (Jvm.Cond.not (Jvm.Cond.eq (Jvm.Term.string "ThreadMoved$Reader" (110 : Nat)) (Jvm.Term.string "ThreadMoved$Reader" (178 : Nat)))), (Jvm.Cond.not (Jvm.Cond.eq (Jvm.Term.string "ThreadMoved$Reader" (115 : Nat)) (Jvm.Term.string "ThreadMoved$Reader" (178 : Nat)))), (Jvm.Cond.not (Jvm.Cond.eq (Jvm.Term.string "ThreadMoved$Reader" (119 : Nat)) (Jvm.Term.string "ThreadMoved$Reader" (178 : Nat)))), (Jvm.Cond.not (Jvm.Cond.eq (Jvm.Term.string "ThreadMoved$Reader" (124 : Nat)) (Jvm.Term.string "ThreadMoved$Reader" (178 : Nat)))), (Jvm.Cond.not (Jvm.Cond.eq (Jvm.Term.string "ThreadMoved$Reader" (126 : Nat)) (Jvm.Term.string "ThreadMoved$Reader" (178 : Nat)))), (Jvm.Cond.not (Jvm.Cond.eq (Jvm.Term.string "ThreadMoved$Reader" (128 : Nat)) (Jvm.Term.string "ThreadMoved$Reader" (178 : Nat)))), (Jvm.Cond.not (Jvm.Cond.eq (Jvm.Term.string "ThreadMoved$Reader" (133 : Nat)) (Jvm.Term.string "ThreadMoved$Reader" (178 : Nat)))), (Jvm.Cond.not (Jvm.Cond.eq (Jvm.Term.string "ThreadMoved$Reader" (169 : Nat)) (Jvm.Term.string "ThreadMoved$Reader" (178 : Nat)))), (Jvm.Cond.not (Jvm.Cond.eq (Jvm.Term.string "ThreadMoved$Reader" (174 : Nat)) (Jvm.Term.string "ThreadMoved$Reader" (178 : Nat)))), (Jvm.Cond.not (Jvm.Cond.eq (Jvm.Term.string "ThreadMoved$Reader" (176 : Nat)) (Jvm.Term.string "ThreadMoved$Reader" (178 : Nat)))), (Jvm.Cond.exactly (Jvm.Term.string "ThreadMoved$Reader" (138 : Nat)) "java/lang/String"), (Jvm.Cond.eq (Jvm.Term.field (Jvm.Term.string "ThreadMoved$Reader" (138 : Nat)) "java/lang/String" "coder" "B") (Jvm.Term.int (0 : Int32))), (Jvm.Cond.arrayOf (Jvm.Term.field (Jvm.Term.string "ThreadMoved$Reader" (138 : Nat)) "java/lang/String" "value" "[B") Jvm.ClassFile.FieldType.byte), (Jvm.Cond.eq (Jvm.Term.length (Jvm.Term.field (Jvm.Term.string "ThreadMoved$Reader" (138 : Nat)) "java/lang/String" "value" "[B")) (Jvm.Term.int (6 : Int32))), (Jvm.Cond.eq (Jvm.Term.elem (Jvm.Term.field (Jvm.Term.string "ThreadMoved$Reader" (138 : Nat)) "java/lang/String" "value" "[B") (Jvm.Term.int (0 : Int32))) (Jvm.Term.int (115 : Int32))), (Jvm.Cond.eq (Jvm.Term.elem (Jvm.Term.field (Jvm.Term.string "ThreadMoved$Reader" (138 : Nat)) "java/lang/String" "value" "[B") (Jvm.Term.int (1 : Int32))) (Jvm.Term.int (116 : Int32))), (Jvm.Cond.eq (Jvm.Term.elem (Jvm.Term.field (Jvm.Term.string "ThreadMoved$Reader" (138 : Nat)) "java/lang/String" "value" "[B") (Jvm.Term.int (2 : Int32))) (Jvm.Term.int (114 : Int32))), (Jvm.Cond.eq (Jvm.Term.elem (Jvm.Term.field (Jvm.Term.string "ThreadMoved$Reader" (138 : Nat)) "java/lang/String" "value" "[B") (Jvm.Term.int (3 : Int32))) (Jvm.Term.int (105 : Int32))), (Jvm.Cond.eq (Jvm.Term.elem (Jvm.Term.field (Jvm.Term.string "ThreadMoved$Reader" (138 : Nat)) "java/lang/String" "value" "[B") (Jvm.Term.int (4 : Int32))) (Jvm.Term.int (110 : Int32))), (Jvm.Cond.eq (Jvm.Term.elem (Jvm.Term.field (Jvm.Term.string "ThreadMoved$Reader" (138 : Nat)) "java/lang/String" "value" "[B") (Jvm.Term.int (5 : Int32))) (Jvm.Term.int (103 : Int32))), (Jvm.Cond.not (Jvm.Cond.eq (Jvm.Term.string "ThreadMoved$Reader" (95 : Nat)) (Jvm.Term.string "ThreadMoved$Reader" (138 : Nat)))), (Jvm.Cond.not (Jvm.Cond.eq (Jvm.Term.string "ThreadMoved$Reader" (110 : Nat)) (Jvm.Term.string "ThreadMoved$Reader" (138 : Nat)))), (Jvm.Cond.not (Jvm.Cond.eq (Jvm.Term.string "ThreadMoved$Reader" (115 : Nat)) (Jvm.Term.string "ThreadMoved$Reader" (138 : Nat)))), (Jvm.Cond.not (Jvm.Cond.eq (Jvm.Term.string "ThreadMoved$Reader" (119 : Nat)) (Jvm.Term.string "ThreadMoved$Reader" (138 : Nat)))), (Jvm.Cond.not (Jvm.Cond.eq (Jvm.Term.string "ThreadMoved$Reader" (124 : Nat)) (Jvm.Term.string "ThreadMoved$Reader" (138 : Nat)))), (Jvm.Cond.not (Jvm.Cond.eq (Jvm.Term.string "ThreadMoved$Reader" (126 : Nat)) (Jvm.Term.string "ThreadMoved$Reader" (138 : Nat)))), (Jvm.Cond.not (Jvm.Cond.eq (Jvm.Term.string "ThreadMoved$Reader" (128 : Nat)) (Jvm.Term.string "ThreadMoved$Reader" (138 : Nat)))), (Jvm.Cond.not (Jvm.Cond.eq (Jvm.Term.string "ThreadMoved$Reader" (133 : Nat)) (Jvm.Term.string "ThreadMoved$Reader" (138 : Nat)))), (Jvm.Cond.not (Jvm.Cond.eq (Jvm.Term.string "ThreadMoved$Reader" (169 : Nat)) (Jvm.Term.string "ThreadMoved$Reader" (138 : Nat)))), (Jvm.Cond.not (Jvm.Cond.eq (Jvm.Term.string "ThreadMoved$Reader" (174 : Nat)) (Jvm.Term.string "ThreadMoved$Reader" (138 : Nat)))), (Jvm.Cond.not (Jvm.Cond.eq (Jvm.Term.string "ThreadMoved$Reader" (176 : Nat)) (Jvm.Term.string "ThreadMoved$Reader" (138 : Nat)))), (Jvm.Cond.not (Jvm.Cond.eq (Jvm.Term.string "ThreadMoved$Reader" (178 : Nat)) (Jvm.Term.string "ThreadMoved$Reader" (138 : Nat)))), (Jvm.Cond.exactly (Jvm.Term.string "ThreadMoved$Reader" (180 : Nat)) "java/lang/String"), (Jvm.Cond.eq (Jvm.Term.field (Jvm.Term.string "ThreadMoved$Reader" (180 : Nat)) "java/lang/String" "coder" "B") (Jvm.Term.int (0 : Int32))), (Jvm.Cond.arrayOf (Jvm.Term.field (Jvm.Term.string "ThreadMoved$Reader" (180 : Nat)) "java/lang/String" "value" "[B") Jvm.ClassFile.FieldType.byte), (Jvm.Cond.eq (Jvm.Term.length (Jvm.Term.field (Jvm.Term.string "ThreadMoved$Reader" (180 : Nat)) "java/lang/String" "value" "[B")) (Jvm.Term.int (6 : Int32))), (Jvm.Cond.eq (Jvm.Term.elem (Jvm.Term.field (Jvm.Term.string "ThreadMoved$Reader" (180 : Nat)) "java/lang/String" "value" "[B") (Jvm.Term.int (0 : Int32))) (Jvm.Term.int (98 : Int32))), (Jvm.Cond.eq (Jvm.Term.elem (Jvm.Term.field (Jvm.Term.string "ThreadMoved$Reader" (180 : Nat)) "java/lang/String" "value" "[B") (Jvm.Term.int (1 : Int32))) (Jvm.Term.int (97 : Int32))), (Jvm.Cond.eq (Jvm.Term.elem (Jvm.Term.field (Jvm.Term.string "ThreadMoved$Reader" (180 : Nat)) "java/lang/String" "value" "[B") (Jvm.Term.int (2 : Int32))) (Jvm.Term.int (114 : Int32))), (Jvm.Cond.eq (Jvm.Term.elem (Jvm.Term.field (Jvm.Term.string "ThreadMoved$Reader" (180 : Nat)) "java/lang/String" "value" "[B") (Jvm.Term.int (3 : Int32))) (Jvm.Term.int (114 : Int32))), (Jvm.Cond.eq (Jvm.Term.elem (Jvm.Term.field (Jvm.Term.string "ThreadMoved$Reader" (180 : Nat)) "java/lang/String" "value" "[B") (Jvm.Term.int (4 : Int32))) (Jvm.Term.int (101 : Int32))), (Jvm.Cond.eq (Jvm.Term.elem (Jvm.Term.field (Jvm.Term.string "ThreadMoved$Reader" (180 : Nat)) "java/lang/String" "value" "[B") (Jvm.Term.int (5 : Int32))) (Jvm.Term.int (100 : Int32))), (Jvm.Cond.not (Jvm.Cond.eq (Jvm.Term.string "ThreadMoved$Reader" (95 : Nat)) (Jvm.Term.string "ThreadMoved$Reader" (180 : Nat)))), (Jvm.Cond.not (Jvm.Cond.eq (Jvm.Term.string "ThreadMoved$Reader" (110 : Nat)) (Jvm.Term.string "ThreadMoved$Reader" (180 : Nat)))), (Jvm.Cond.not (Jvm.Cond.eq (Jvm.Term.string "ThreadMoved$Reader" (115 : Nat)) (Jvm.Term.string "ThreadMoved$Reader" (180 : Nat)))), (Jvm.Cond.not (Jvm.Cond.eq (Jvm.Term.string "ThreadMoved$Reader" (119 : Nat)) (Jvm.Term.string "ThreadMoved$Reader" (180 : Nat)))), (Jvm.Cond.not (Jvm.Cond.eq (Jvm.Term.string "ThreadMoved$Reader" (124 : Nat)) (Jvm.Term.string "ThreadMoved$Reader" (180 : Nat)))), (Jvm.Cond.not (Jvm.Cond.eq (Jvm.Term.string "ThreadMoved$Reader" (126 : Nat)) (Jvm.Term.string "ThreadMoved$Reader" (180 : Nat)))), (Jvm.Cond.not (Jvm.Cond.eq (Jvm.Term.string "ThreadMoved$Reader" (128 : Nat)) (Jvm.Term.string "ThreadMoved$Reader" (180 : Nat)))), (Jvm.Cond.not (Jvm.Cond.eq (Jvm.Term.string "ThreadMoved$Reader" (133 : Nat)) (Jvm.Term.string "ThreadMoved$Reader" (180 : Nat)))), (Jvm.Cond.not (Jvm.Cond.eq (Jvm.Term.string "ThreadMoved$Reader" (169 : Nat)) (Jvm.Term.string "ThreadMoved$Reader" (180 : Nat)))), (Jvm.Cond.not (Jvm.Cond.eq (Jvm.Term.string "ThreadMoved$Reader" (174 : Nat)) (Jvm.Term.string "ThreadMoved$Reader" (180 : Nat)))), (Jvm.Cond.not (Jvm.Cond.eq (Jvm.Term.string "ThreadMoved$Reader" (176 : Nat)) (Jvm.Term.string "ThreadMoved$Reader" (180 : Nat)))), (Jvm.Cond.not (Jvm.Cond.eq (Jvm.Term.string "ThreadMoved$Reader" (178 : Nat)) (Jvm.Term.string "ThreadMoved$Reader" (180 : Nat)))), (Jvm.Cond.not (Jvm.Cond.eq (Jvm.Term.string "ThreadMoved$Reader" (138 : Nat)) (Jvm.Term.string "ThreadMoved$Reader" (180 : Nat))))]
set_option maxRecDepth 100000 in
theorem nwL_e : flatC (Jvm.Cond.and given_1 narrow_1) = nwL := rfl
theorem nw_ex {s : State} {args : Array Value} (hs : ∀ c ∈ nwL, c.before args s = true) : ∀ i : Nat, i < 14 → (Cond.exactly ((fun i : Nat => Term.string RX3 (skI.getD i 0)) i) "java/lang/String").before args s = true := by
  intro i hi
  rcases (show i = 0 ∨ i = 1 ∨ i = 2 ∨ i = 3 ∨ i = 4 ∨ i = 5 ∨ i = 6 ∨ i = 7 ∨ i = 8 ∨ i = 9 ∨ i = 10 ∨ i = 11 ∨ i = 12 ∨ i = 13 by omega) with rfl | rfl | rfl | rfl | rfl | rfl | rfl | rfl | rfl | rfl | rfl | rfl | rfl | rfl
  · exact hs _ (List.mem_of_getElem? (i := 27) rfl)
  · exact hs _ (List.mem_of_getElem? (i := 36) rfl)
  · exact hs _ (List.mem_of_getElem? (i := 45) rfl)
  · exact hs _ (List.mem_of_getElem? (i := 57) rfl)
  · exact hs _ (List.mem_of_getElem? (i := 68) rfl)
  · exact hs _ (List.mem_of_getElem? (i := 80) rfl)
  · exact hs _ (List.mem_of_getElem? (i := 92) rfl)
  · exact hs _ (List.mem_of_getElem? (i := 104) rfl)
  · exact hs _ (List.mem_of_getElem? (i := 195) rfl)
  · exact hs _ (List.mem_of_getElem? (i := 217) rfl)
  · exact hs _ (List.mem_of_getElem? (i := 120) rfl)
  · exact hs _ (List.mem_of_getElem? (i := 138) rfl)
  · exact hs _ (List.mem_of_getElem? (i := 155) rfl)
  · exact hs _ (List.mem_of_getElem? (i := 175) rfl)
theorem nw_co {s : State} {args : Array Value} (hs : ∀ c ∈ nwL, c.before args s = true) : ∀ i : Nat, i < 14 → (Cond.eq (.field ((fun i : Nat => Term.string RX3 (skI.getD i 0)) i) "java/lang/String" "coder" "B") (.int 0)).before args s = true := by
  intro i hi
  rcases (show i = 0 ∨ i = 1 ∨ i = 2 ∨ i = 3 ∨ i = 4 ∨ i = 5 ∨ i = 6 ∨ i = 7 ∨ i = 8 ∨ i = 9 ∨ i = 10 ∨ i = 11 ∨ i = 12 ∨ i = 13 by omega) with rfl | rfl | rfl | rfl | rfl | rfl | rfl | rfl | rfl | rfl | rfl | rfl | rfl | rfl
  · exact hs _ (List.mem_of_getElem? (i := 28) rfl)
  · exact hs _ (List.mem_of_getElem? (i := 37) rfl)
  · exact hs _ (List.mem_of_getElem? (i := 46) rfl)
  · exact hs _ (List.mem_of_getElem? (i := 58) rfl)
  · exact hs _ (List.mem_of_getElem? (i := 69) rfl)
  · exact hs _ (List.mem_of_getElem? (i := 81) rfl)
  · exact hs _ (List.mem_of_getElem? (i := 93) rfl)
  · exact hs _ (List.mem_of_getElem? (i := 105) rfl)
  · exact hs _ (List.mem_of_getElem? (i := 196) rfl)
  · exact hs _ (List.mem_of_getElem? (i := 218) rfl)
  · exact hs _ (List.mem_of_getElem? (i := 121) rfl)
  · exact hs _ (List.mem_of_getElem? (i := 139) rfl)
  · exact hs _ (List.mem_of_getElem? (i := 156) rfl)
  · exact hs _ (List.mem_of_getElem? (i := 176) rfl)
theorem nw_ar {s : State} {args : Array Value} (hs : ∀ c ∈ nwL, c.before args s = true) : ∀ i : Nat, i < 14 → (Cond.arrayOf (.field ((fun i : Nat => Term.string RX3 (skI.getD i 0)) i) "java/lang/String" "value" "[B") .byte).before args s = true := by
  intro i hi
  rcases (show i = 0 ∨ i = 1 ∨ i = 2 ∨ i = 3 ∨ i = 4 ∨ i = 5 ∨ i = 6 ∨ i = 7 ∨ i = 8 ∨ i = 9 ∨ i = 10 ∨ i = 11 ∨ i = 12 ∨ i = 13 by omega) with rfl | rfl | rfl | rfl | rfl | rfl | rfl | rfl | rfl | rfl | rfl | rfl | rfl | rfl
  · exact hs _ (List.mem_of_getElem? (i := 29) rfl)
  · exact hs _ (List.mem_of_getElem? (i := 38) rfl)
  · exact hs _ (List.mem_of_getElem? (i := 47) rfl)
  · exact hs _ (List.mem_of_getElem? (i := 59) rfl)
  · exact hs _ (List.mem_of_getElem? (i := 70) rfl)
  · exact hs _ (List.mem_of_getElem? (i := 82) rfl)
  · exact hs _ (List.mem_of_getElem? (i := 94) rfl)
  · exact hs _ (List.mem_of_getElem? (i := 106) rfl)
  · exact hs _ (List.mem_of_getElem? (i := 197) rfl)
  · exact hs _ (List.mem_of_getElem? (i := 219) rfl)
  · exact hs _ (List.mem_of_getElem? (i := 122) rfl)
  · exact hs _ (List.mem_of_getElem? (i := 140) rfl)
  · exact hs _ (List.mem_of_getElem? (i := 157) rfl)
  · exact hs _ (List.mem_of_getElem? (i := 177) rfl)
theorem nw_le {s : State} {args : Array Value} (hs : ∀ c ∈ nwL, c.before args s = true) : ∀ i : Nat, i < 14 → (Cond.eq (.length (.field ((fun i : Nat => Term.string RX3 (skI.getD i 0)) i) "java/lang/String" "value" "[B")) (.int (Int32.ofNat (skL.getD i 0)))).before args s = true := by
  intro i hi
  rcases (show i = 0 ∨ i = 1 ∨ i = 2 ∨ i = 3 ∨ i = 4 ∨ i = 5 ∨ i = 6 ∨ i = 7 ∨ i = 8 ∨ i = 9 ∨ i = 10 ∨ i = 11 ∨ i = 12 ∨ i = 13 by omega) with rfl | rfl | rfl | rfl | rfl | rfl | rfl | rfl | rfl | rfl | rfl | rfl | rfl | rfl
  · exact hs _ (List.mem_of_getElem? (i := 30) rfl)
  · exact hs _ (List.mem_of_getElem? (i := 39) rfl)
  · exact hs _ (List.mem_of_getElem? (i := 48) rfl)
  · exact hs _ (List.mem_of_getElem? (i := 60) rfl)
  · exact hs _ (List.mem_of_getElem? (i := 71) rfl)
  · exact hs _ (List.mem_of_getElem? (i := 83) rfl)
  · exact hs _ (List.mem_of_getElem? (i := 95) rfl)
  · exact hs _ (List.mem_of_getElem? (i := 107) rfl)
  · exact hs _ (List.mem_of_getElem? (i := 198) rfl)
  · exact hs _ (List.mem_of_getElem? (i := 220) rfl)
  · exact hs _ (List.mem_of_getElem? (i := 123) rfl)
  · exact hs _ (List.mem_of_getElem? (i := 141) rfl)
  · exact hs _ (List.mem_of_getElem? (i := 158) rfl)
  · exact hs _ (List.mem_of_getElem? (i := 178) rfl)
theorem nw_el {s : State} {args : Array Value} (hs : ∀ c ∈ nwL, c.before args s = true) : ∀ i : Nat, i < 14 → ∀ j : Nat, j < skL.getD i 0 → (Cond.eq (.elem (.field ((fun i : Nat => Term.string RX3 (skI.getD i 0)) i) "java/lang/String" "value" "[B") (.int (Int32.ofNat j))) (.int ((skB.getD i []).getD j 0))).before args s = true := by
  intro i hi j hj
  rcases (show i = 0 ∨ i = 1 ∨ i = 2 ∨ i = 3 ∨ i = 4 ∨ i = 5 ∨ i = 6 ∨ i = 7 ∨ i = 8 ∨ i = 9 ∨ i = 10 ∨ i = 11 ∨ i = 12 ∨ i = 13 by omega) with rfl | rfl | rfl | rfl | rfl | rfl | rfl | rfl | rfl | rfl | rfl | rfl | rfl | rfl
  · have hj : j < 5 := hj
    rcases (show j = 0 ∨ j = 1 ∨ j = 2 ∨ j = 3 ∨ j = 4 by omega) with rfl | rfl | rfl | rfl | rfl
    · exact hs _ (List.mem_of_getElem? (i := 31) rfl)
    · exact hs _ (List.mem_of_getElem? (i := 32) rfl)
    · exact hs _ (List.mem_of_getElem? (i := 33) rfl)
    · exact hs _ (List.mem_of_getElem? (i := 34) rfl)
    · exact hs _ (List.mem_of_getElem? (i := 35) rfl)
  · have hj : j < 4 := hj
    rcases (show j = 0 ∨ j = 1 ∨ j = 2 ∨ j = 3 by omega) with rfl | rfl | rfl | rfl
    · exact hs _ (List.mem_of_getElem? (i := 40) rfl)
    · exact hs _ (List.mem_of_getElem? (i := 41) rfl)
    · exact hs _ (List.mem_of_getElem? (i := 42) rfl)
    · exact hs _ (List.mem_of_getElem? (i := 43) rfl)
  · have hj : j < 6 := hj
    rcases (show j = 0 ∨ j = 1 ∨ j = 2 ∨ j = 3 ∨ j = 4 ∨ j = 5 by omega) with rfl | rfl | rfl | rfl | rfl | rfl
    · exact hs _ (List.mem_of_getElem? (i := 49) rfl)
    · exact hs _ (List.mem_of_getElem? (i := 50) rfl)
    · exact hs _ (List.mem_of_getElem? (i := 51) rfl)
    · exact hs _ (List.mem_of_getElem? (i := 52) rfl)
    · exact hs _ (List.mem_of_getElem? (i := 53) rfl)
    · exact hs _ (List.mem_of_getElem? (i := 54) rfl)
  · have hj : j < 4 := hj
    rcases (show j = 0 ∨ j = 1 ∨ j = 2 ∨ j = 3 by omega) with rfl | rfl | rfl | rfl
    · exact hs _ (List.mem_of_getElem? (i := 61) rfl)
    · exact hs _ (List.mem_of_getElem? (i := 62) rfl)
    · exact hs _ (List.mem_of_getElem? (i := 63) rfl)
    · exact hs _ (List.mem_of_getElem? (i := 64) rfl)
  · have hj : j < 4 := hj
    rcases (show j = 0 ∨ j = 1 ∨ j = 2 ∨ j = 3 by omega) with rfl | rfl | rfl | rfl
    · exact hs _ (List.mem_of_getElem? (i := 72) rfl)
    · exact hs _ (List.mem_of_getElem? (i := 73) rfl)
    · exact hs _ (List.mem_of_getElem? (i := 74) rfl)
    · exact hs _ (List.mem_of_getElem? (i := 75) rfl)
  · have hj : j < 3 := hj
    rcases (show j = 0 ∨ j = 1 ∨ j = 2 by omega) with rfl | rfl | rfl
    · exact hs _ (List.mem_of_getElem? (i := 84) rfl)
    · exact hs _ (List.mem_of_getElem? (i := 85) rfl)
    · exact hs _ (List.mem_of_getElem? (i := 86) rfl)
  · have hj : j < 2 := hj
    rcases (show j = 0 ∨ j = 1 by omega) with rfl | rfl
    · exact hs _ (List.mem_of_getElem? (i := 96) rfl)
    · exact hs _ (List.mem_of_getElem? (i := 97) rfl)
  · have hj : j < 5 := hj
    rcases (show j = 0 ∨ j = 1 ∨ j = 2 ∨ j = 3 ∨ j = 4 by omega) with rfl | rfl | rfl | rfl | rfl
    · exact hs _ (List.mem_of_getElem? (i := 108) rfl)
    · exact hs _ (List.mem_of_getElem? (i := 109) rfl)
    · exact hs _ (List.mem_of_getElem? (i := 110) rfl)
    · exact hs _ (List.mem_of_getElem? (i := 111) rfl)
    · exact hs _ (List.mem_of_getElem? (i := 112) rfl)
  · have hj : j < 6 := hj
    rcases (show j = 0 ∨ j = 1 ∨ j = 2 ∨ j = 3 ∨ j = 4 ∨ j = 5 by omega) with rfl | rfl | rfl | rfl | rfl | rfl
    · exact hs _ (List.mem_of_getElem? (i := 199) rfl)
    · exact hs _ (List.mem_of_getElem? (i := 200) rfl)
    · exact hs _ (List.mem_of_getElem? (i := 201) rfl)
    · exact hs _ (List.mem_of_getElem? (i := 202) rfl)
    · exact hs _ (List.mem_of_getElem? (i := 203) rfl)
    · exact hs _ (List.mem_of_getElem? (i := 204) rfl)
  · have hj : j < 6 := hj
    rcases (show j = 0 ∨ j = 1 ∨ j = 2 ∨ j = 3 ∨ j = 4 ∨ j = 5 by omega) with rfl | rfl | rfl | rfl | rfl | rfl
    · exact hs _ (List.mem_of_getElem? (i := 221) rfl)
    · exact hs _ (List.mem_of_getElem? (i := 222) rfl)
    · exact hs _ (List.mem_of_getElem? (i := 223) rfl)
    · exact hs _ (List.mem_of_getElem? (i := 224) rfl)
    · exact hs _ (List.mem_of_getElem? (i := 225) rfl)
    · exact hs _ (List.mem_of_getElem? (i := 226) rfl)
  · have hj : j < 6 := hj
    rcases (show j = 0 ∨ j = 1 ∨ j = 2 ∨ j = 3 ∨ j = 4 ∨ j = 5 by omega) with rfl | rfl | rfl | rfl | rfl | rfl
    · exact hs _ (List.mem_of_getElem? (i := 124) rfl)
    · exact hs _ (List.mem_of_getElem? (i := 125) rfl)
    · exact hs _ (List.mem_of_getElem? (i := 126) rfl)
    · exact hs _ (List.mem_of_getElem? (i := 127) rfl)
    · exact hs _ (List.mem_of_getElem? (i := 128) rfl)
    · exact hs _ (List.mem_of_getElem? (i := 129) rfl)
  · have hj : j < 4 := hj
    rcases (show j = 0 ∨ j = 1 ∨ j = 2 ∨ j = 3 by omega) with rfl | rfl | rfl | rfl
    · exact hs _ (List.mem_of_getElem? (i := 142) rfl)
    · exact hs _ (List.mem_of_getElem? (i := 143) rfl)
    · exact hs _ (List.mem_of_getElem? (i := 144) rfl)
    · exact hs _ (List.mem_of_getElem? (i := 145) rfl)
  · have hj : j < 6 := hj
    rcases (show j = 0 ∨ j = 1 ∨ j = 2 ∨ j = 3 ∨ j = 4 ∨ j = 5 by omega) with rfl | rfl | rfl | rfl | rfl | rfl
    · exact hs _ (List.mem_of_getElem? (i := 159) rfl)
    · exact hs _ (List.mem_of_getElem? (i := 160) rfl)
    · exact hs _ (List.mem_of_getElem? (i := 161) rfl)
    · exact hs _ (List.mem_of_getElem? (i := 162) rfl)
    · exact hs _ (List.mem_of_getElem? (i := 163) rfl)
    · exact hs _ (List.mem_of_getElem? (i := 164) rfl)
  · have hj : j < 5 := hj
    rcases (show j = 0 ∨ j = 1 ∨ j = 2 ∨ j = 3 ∨ j = 4 by omega) with rfl | rfl | rfl | rfl | rfl
    · exact hs _ (List.mem_of_getElem? (i := 179) rfl)
    · exact hs _ (List.mem_of_getElem? (i := 180) rfl)
    · exact hs _ (List.mem_of_getElem? (i := 181) rfl)
    · exact hs _ (List.mem_of_getElem? (i := 182) rfl)
    · exact hs _ (List.mem_of_getElem? (i := 183) rfl)
theorem nw_n1 {s : State} {args : Array Value} (hs : ∀ c ∈ nwL, c.before args s = true) : ∀ i j : Nat, i < j → j < 14 → (Cond.not (Cond.eq ((fun i : Nat => Term.string RX3 (skI.getD i 0)) i) ((fun i : Nat => Term.string RX3 (skI.getD i 0)) j))).before args s = true ∨ (Cond.not (Cond.eq ((fun i : Nat => Term.string RX3 (skI.getD i 0)) j) ((fun i : Nat => Term.string RX3 (skI.getD i 0)) i))).before args s = true := by
  intro i j hij hj
  rcases (show i = 0 ∨ i = 1 ∨ i = 2 ∨ i = 3 ∨ i = 4 ∨ i = 5 ∨ i = 6 ∨ i = 7 ∨ i = 8 ∨ i = 9 ∨ i = 10 ∨ i = 11 ∨ i = 12 by omega) with rfl | rfl | rfl | rfl | rfl | rfl | rfl | rfl | rfl | rfl | rfl | rfl | rfl
  · rcases (show j = 1 ∨ j = 2 ∨ j = 3 ∨ j = 4 ∨ j = 5 ∨ j = 6 ∨ j = 7 ∨ j = 8 ∨ j = 9 ∨ j = 10 ∨ j = 11 ∨ j = 12 ∨ j = 13 by omega) with rfl | rfl | rfl | rfl | rfl | rfl | rfl | rfl | rfl | rfl | rfl | rfl | rfl
    · exact Or.inl (hs _ (List.mem_of_getElem? (i := 44) rfl))
    · exact Or.inl (hs _ (List.mem_of_getElem? (i := 55) rfl))
    · exact Or.inl (hs _ (List.mem_of_getElem? (i := 65) rfl))
    · exact Or.inl (hs _ (List.mem_of_getElem? (i := 76) rfl))
    · exact Or.inl (hs _ (List.mem_of_getElem? (i := 87) rfl))
    · exact Or.inl (hs _ (List.mem_of_getElem? (i := 98) rfl))
    · exact Or.inl (hs _ (List.mem_of_getElem? (i := 113) rfl))
    · exact Or.inl (hs _ (List.mem_of_getElem? (i := 205) rfl))
    · exact Or.inl (hs _ (List.mem_of_getElem? (i := 227) rfl))
    · exact Or.inl (hs _ (List.mem_of_getElem? (i := 130) rfl))
    · exact Or.inl (hs _ (List.mem_of_getElem? (i := 146) rfl))
    · exact Or.inl (hs _ (List.mem_of_getElem? (i := 165) rfl))
    · exact Or.inl (hs _ (List.mem_of_getElem? (i := 184) rfl))
  · rcases (show j = 2 ∨ j = 3 ∨ j = 4 ∨ j = 5 ∨ j = 6 ∨ j = 7 ∨ j = 8 ∨ j = 9 ∨ j = 10 ∨ j = 11 ∨ j = 12 ∨ j = 13 by omega) with rfl | rfl | rfl | rfl | rfl | rfl | rfl | rfl | rfl | rfl | rfl | rfl
    · exact Or.inl (hs _ (List.mem_of_getElem? (i := 56) rfl))
    · exact Or.inl (hs _ (List.mem_of_getElem? (i := 66) rfl))
    · exact Or.inl (hs _ (List.mem_of_getElem? (i := 77) rfl))
    · exact Or.inl (hs _ (List.mem_of_getElem? (i := 88) rfl))
    · exact Or.inl (hs _ (List.mem_of_getElem? (i := 99) rfl))
    · exact Or.inl (hs _ (List.mem_of_getElem? (i := 114) rfl))
    · exact Or.inl (hs _ (List.mem_of_getElem? (i := 206) rfl))
    · exact Or.inl (hs _ (List.mem_of_getElem? (i := 228) rfl))
    · exact Or.inl (hs _ (List.mem_of_getElem? (i := 131) rfl))
    · exact Or.inl (hs _ (List.mem_of_getElem? (i := 147) rfl))
    · exact Or.inl (hs _ (List.mem_of_getElem? (i := 166) rfl))
    · exact Or.inl (hs _ (List.mem_of_getElem? (i := 185) rfl))
  · rcases (show j = 3 ∨ j = 4 ∨ j = 5 ∨ j = 6 ∨ j = 7 ∨ j = 8 ∨ j = 9 ∨ j = 10 ∨ j = 11 ∨ j = 12 ∨ j = 13 by omega) with rfl | rfl | rfl | rfl | rfl | rfl | rfl | rfl | rfl | rfl | rfl
    · exact Or.inl (hs _ (List.mem_of_getElem? (i := 67) rfl))
    · exact Or.inl (hs _ (List.mem_of_getElem? (i := 78) rfl))
    · exact Or.inl (hs _ (List.mem_of_getElem? (i := 89) rfl))
    · exact Or.inl (hs _ (List.mem_of_getElem? (i := 100) rfl))
    · exact Or.inl (hs _ (List.mem_of_getElem? (i := 115) rfl))
    · exact Or.inl (hs _ (List.mem_of_getElem? (i := 207) rfl))
    · exact Or.inl (hs _ (List.mem_of_getElem? (i := 229) rfl))
    · exact Or.inl (hs _ (List.mem_of_getElem? (i := 132) rfl))
    · exact Or.inl (hs _ (List.mem_of_getElem? (i := 148) rfl))
    · exact Or.inl (hs _ (List.mem_of_getElem? (i := 167) rfl))
    · exact Or.inl (hs _ (List.mem_of_getElem? (i := 186) rfl))
  · rcases (show j = 4 ∨ j = 5 ∨ j = 6 ∨ j = 7 ∨ j = 8 ∨ j = 9 ∨ j = 10 ∨ j = 11 ∨ j = 12 ∨ j = 13 by omega) with rfl | rfl | rfl | rfl | rfl | rfl | rfl | rfl | rfl | rfl
    · exact Or.inl (hs _ (List.mem_of_getElem? (i := 79) rfl))
    · exact Or.inl (hs _ (List.mem_of_getElem? (i := 90) rfl))
    · exact Or.inl (hs _ (List.mem_of_getElem? (i := 101) rfl))
    · exact Or.inl (hs _ (List.mem_of_getElem? (i := 116) rfl))
    · exact Or.inl (hs _ (List.mem_of_getElem? (i := 208) rfl))
    · exact Or.inl (hs _ (List.mem_of_getElem? (i := 230) rfl))
    · exact Or.inl (hs _ (List.mem_of_getElem? (i := 133) rfl))
    · exact Or.inl (hs _ (List.mem_of_getElem? (i := 149) rfl))
    · exact Or.inl (hs _ (List.mem_of_getElem? (i := 168) rfl))
    · exact Or.inl (hs _ (List.mem_of_getElem? (i := 187) rfl))
  · rcases (show j = 5 ∨ j = 6 ∨ j = 7 ∨ j = 8 ∨ j = 9 ∨ j = 10 ∨ j = 11 ∨ j = 12 ∨ j = 13 by omega) with rfl | rfl | rfl | rfl | rfl | rfl | rfl | rfl | rfl
    · exact Or.inl (hs _ (List.mem_of_getElem? (i := 91) rfl))
    · exact Or.inl (hs _ (List.mem_of_getElem? (i := 102) rfl))
    · exact Or.inl (hs _ (List.mem_of_getElem? (i := 117) rfl))
    · exact Or.inl (hs _ (List.mem_of_getElem? (i := 209) rfl))
    · exact Or.inl (hs _ (List.mem_of_getElem? (i := 231) rfl))
    · exact Or.inl (hs _ (List.mem_of_getElem? (i := 134) rfl))
    · exact Or.inl (hs _ (List.mem_of_getElem? (i := 150) rfl))
    · exact Or.inl (hs _ (List.mem_of_getElem? (i := 169) rfl))
    · exact Or.inl (hs _ (List.mem_of_getElem? (i := 188) rfl))
  · rcases (show j = 6 ∨ j = 7 ∨ j = 8 ∨ j = 9 ∨ j = 10 ∨ j = 11 ∨ j = 12 ∨ j = 13 by omega) with rfl | rfl | rfl | rfl | rfl | rfl | rfl | rfl
    · exact Or.inl (hs _ (List.mem_of_getElem? (i := 103) rfl))
    · exact Or.inl (hs _ (List.mem_of_getElem? (i := 118) rfl))
    · exact Or.inl (hs _ (List.mem_of_getElem? (i := 210) rfl))
    · exact Or.inl (hs _ (List.mem_of_getElem? (i := 232) rfl))
    · exact Or.inl (hs _ (List.mem_of_getElem? (i := 135) rfl))
    · exact Or.inl (hs _ (List.mem_of_getElem? (i := 151) rfl))
    · exact Or.inl (hs _ (List.mem_of_getElem? (i := 170) rfl))
    · exact Or.inl (hs _ (List.mem_of_getElem? (i := 189) rfl))
  · rcases (show j = 7 ∨ j = 8 ∨ j = 9 ∨ j = 10 ∨ j = 11 ∨ j = 12 ∨ j = 13 by omega) with rfl | rfl | rfl | rfl | rfl | rfl | rfl
    · exact Or.inl (hs _ (List.mem_of_getElem? (i := 119) rfl))
    · exact Or.inl (hs _ (List.mem_of_getElem? (i := 211) rfl))
    · exact Or.inl (hs _ (List.mem_of_getElem? (i := 233) rfl))
    · exact Or.inl (hs _ (List.mem_of_getElem? (i := 136) rfl))
    · exact Or.inl (hs _ (List.mem_of_getElem? (i := 152) rfl))
    · exact Or.inl (hs _ (List.mem_of_getElem? (i := 171) rfl))
    · exact Or.inl (hs _ (List.mem_of_getElem? (i := 190) rfl))
  · rcases (show j = 8 ∨ j = 9 ∨ j = 10 ∨ j = 11 ∨ j = 12 ∨ j = 13 by omega) with rfl | rfl | rfl | rfl | rfl | rfl
    · exact Or.inl (hs _ (List.mem_of_getElem? (i := 212) rfl))
    · exact Or.inl (hs _ (List.mem_of_getElem? (i := 234) rfl))
    · exact Or.inl (hs _ (List.mem_of_getElem? (i := 137) rfl))
    · exact Or.inl (hs _ (List.mem_of_getElem? (i := 153) rfl))
    · exact Or.inl (hs _ (List.mem_of_getElem? (i := 172) rfl))
    · exact Or.inl (hs _ (List.mem_of_getElem? (i := 191) rfl))
  · rcases (show j = 9 ∨ j = 10 ∨ j = 11 ∨ j = 12 ∨ j = 13 by omega) with rfl | rfl | rfl | rfl | rfl
    · exact Or.inl (hs _ (List.mem_of_getElem? (i := 239) rfl))
    · exact Or.inr (hs _ (List.mem_of_getElem? (i := 213) rfl))
    · exact Or.inr (hs _ (List.mem_of_getElem? (i := 214) rfl))
    · exact Or.inr (hs _ (List.mem_of_getElem? (i := 215) rfl))
    · exact Or.inr (hs _ (List.mem_of_getElem? (i := 216) rfl))
  · rcases (show j = 10 ∨ j = 11 ∨ j = 12 ∨ j = 13 by omega) with rfl | rfl | rfl | rfl
    · exact Or.inr (hs _ (List.mem_of_getElem? (i := 235) rfl))
    · exact Or.inr (hs _ (List.mem_of_getElem? (i := 236) rfl))
    · exact Or.inr (hs _ (List.mem_of_getElem? (i := 237) rfl))
    · exact Or.inr (hs _ (List.mem_of_getElem? (i := 238) rfl))
  · rcases (show j = 11 ∨ j = 12 ∨ j = 13 by omega) with rfl | rfl | rfl
    · exact Or.inl (hs _ (List.mem_of_getElem? (i := 154) rfl))
    · exact Or.inl (hs _ (List.mem_of_getElem? (i := 173) rfl))
    · exact Or.inl (hs _ (List.mem_of_getElem? (i := 192) rfl))
  · rcases (show j = 12 ∨ j = 13 by omega) with rfl | rfl
    · exact Or.inl (hs _ (List.mem_of_getElem? (i := 174) rfl))
    · exact Or.inl (hs _ (List.mem_of_getElem? (i := 193) rfl))
  · have : j = 13 := by omega
    subst this
    exact Or.inl (hs _ (List.mem_of_getElem? (i := 194) rfl))
theorem nw_st {s : State} {args : Array Value} (hts : ∀ w ∈ lw_tbl, w.before args s = true) : ∀ i : Nat, i < 14 → (Cond.stringRef RX3 (skI.getD i 0) (skX.getD i "")).before args s = true := by
  intro i hi
  rcases (show i = 0 ∨ i = 1 ∨ i = 2 ∨ i = 3 ∨ i = 4 ∨ i = 5 ∨ i = 6 ∨ i = 7 ∨ i = 8 ∨ i = 9 ∨ i = 10 ∨ i = 11 ∨ i = 12 ∨ i = 13 by omega) with rfl | rfl | rfl | rfl | rfl | rfl | rfl | rfl | rfl | rfl | rfl | rfl | rfl | rfl
  · exact hts _ (tb_2 (List.mem_of_getElem? (i := 122) rfl))
  · exact hts _ (tb_2 (List.mem_of_getElem? (i := 184) rfl))
  · exact hts _ (tb_2 (List.mem_of_getElem? (i := 189) rfl))
  · exact hts _ (tb_2 (List.mem_of_getElem? (i := 190) rfl))
  · exact hts _ (tb_2 (List.mem_of_getElem? (i := 195) rfl))
  · exact hts _ (tb_2 (List.mem_of_getElem? (i := 196) rfl))
  · exact hts _ (tb_2 (List.mem_of_getElem? (i := 197) rfl))
  · exact hts _ (tb_2 (List.mem_of_getElem? (i := 198) rfl))
  · exact hts _ (tb_2 (List.mem_of_getElem? (i := 207) rfl))
  · exact hts _ (tb_2 (List.mem_of_getElem? (i := 212) rfl))
  · exact hts _ (tb_2 (List.mem_of_getElem? (i := 203) rfl))
  · exact hts _ (tb_2 (List.mem_of_getElem? (i := 204) rfl))
  · exact hts _ (tb_2 (List.mem_of_getElem? (i := 205) rfl))
  · exact hts _ (tb_2 (List.mem_of_getElem? (i := 206) rfl))
theorem nw_nz {s : State} {args : Array Value} (hts : ∀ w ∈ lw_tbl, w.before args s = true) : nz s := ⟨(List.forall_mem_cons.mpr ⟨va_Nw.of rfl (hts (.methodLinkNest RX7 41 yX3_init RX7) (tb_1 (List.mem_of_getElem? (i := 146) rfl))), (List.forall_mem_cons.mpr ⟨va_Nw.of rfl (hts (.methodLinkNest RX7 48 yX0_init RX7) (tb_1 (List.mem_of_getElem? (i := 200) rfl))), (List.forall_mem_cons.mpr ⟨va_Nw.of rfl (hts (.methodLinkNest RX7 58 yX4_init RX7) (tb_1 (List.mem_of_getElem? (i := 223) rfl))), (List.forall_mem_cons.mpr ⟨va_Nw.of rfl (hts (.methodLinkNest RX7 65 yX1_init RX7) (tb_2 (List.mem_of_getElem? (i := 8) rfl))), (List.forall_mem_cons.mpr ⟨va_Nw.of rfl (hts (.methodLinkNest RX7 79 yX5_init RX7) (tb_2 (List.mem_of_getElem? (i := 22) rfl))), (List.forall_mem_cons.mpr ⟨va_Nw.of rfl (hts (.methodLinkNest RX0 25 yX7_isWithin RX7) (tb_3 (List.mem_of_getElem? (i := 200) rfl))), (List.forall_mem_cons.mpr ⟨va_Nw.of rfl (hts (.methodLinkNest RX2 40 yX7_firstDoorOf RX7) (tb_2 (List.mem_of_getElem? (i := 225) rfl))), (List.forall_mem_cons.mpr ⟨va_Nw.of rfl (hts (.methodLinkNest RX2 48 yX7_secondPartOf RX7) (tb_2 (List.mem_of_getElem? (i := 232) rfl))), (List.forall_mem_cons.mpr ⟨va_Nw.of rfl (hts (.methodLinkNest RX2 54 yX7_isWithin RX7) (tb_3 (List.mem_of_getElem? (i := 214) rfl))), (List.forall_mem_cons.mpr ⟨va_Nw.of rfl (hts (.methodLinkNest RX3 147 yX7_isWithin RX7) (tb_2 (List.mem_of_getElem? (i := 183) rfl))), (List.forall_mem_cons.mpr ⟨va_Nw.of rfl (hts (.methodLinkNest RX5 28 yX7_isWithin RX7) (tb_4 (List.mem_of_getElem? (i := 76) rfl))), (List.forall_mem_cons.mpr ⟨va_Nw.of rfl (hts (.methodLinkNest RX6 122 yX7_doorAt RX7) (tb_3 (List.mem_of_getElem? (i := 106) rfl))), (List.forall_mem_cons.mpr ⟨va_Nw.of rfl (hts (.methodLinkNest RX6 63 yX7_isWithin RX7) (tb_3 (List.mem_of_getElem? (i := 27) rfl))), (List.forall_mem_cons.mpr ⟨va_Nw.of rfl (hts (.methodLinkNest RX6 70 yX7_asNumber RX7) (tb_3 (List.mem_of_getElem? (i := 32) rfl))), (List.forall_mem_cons.mpr ⟨va_Nw.of rfl (hts (.methodLinkNest RX6 84 yX7_firstDoorOf RX7) (tb_3 (List.mem_of_getElem? (i := 121) rfl))), (List.forall_mem_cons.mpr ⟨va_Nw.of rfl (hts (.methodLinkNest RX6 88 yX7_secondPartOf RX7) (tb_3 (List.mem_of_getElem? (i := 122) rfl))), (List.forall_mem_cons.mpr ⟨va_Nw.of rfl (hts (.methodLinkNest RX6 94 yX7_modulo RX7) (tb_3 (List.mem_of_getElem? (i := 103) rfl))), (fun _ h => absurd h List.not_mem_nil)⟩)⟩)⟩)⟩)⟩)⟩)⟩)⟩)⟩)⟩)⟩)⟩)⟩)⟩)⟩)⟩)⟩), va_AO.of (hts (.arrayOver (.object "ThreadMoved$State")) (tb_1 (List.mem_of_getElem? (i := 143) rfl))), va_AO.of (hts (.arrayOver (.object "ThreadMoved$Sheet")) (tb_2 (List.mem_of_getElem? (i := 20) rfl)))⟩
theorem nw_ac {s : State} {args : Array Value} {ty : FieldType} (hk : ∀ C, ty ≠ .object C) (h : (Cond.arrayClass ty).before args s = true) : ∃ cA : ClassId, ArrOfT s cA ty ∧ va_RA s cA ty := by
  obtain ⟨c, k, comp, h1, h2, h3⟩ := Cond.arrayClass_spec h
  refine ⟨c, fun n z => ⟨fun k h => (by cases h), k, h2, comp, h3⟩, ?_⟩
  cases ty with
  | object C => exact absurd rfl (hk C)
  | _ => exact h1
theorem nw_ao {s : State} {args : Array Value} {C : String} (h : (Cond.arrayOver (.object C)).before args s = true) : ∃ cA : ClassId, ArrOfT s cA (.object C) ∧ va_RA s cA (.object C) := by
  obtain ⟨comp, c, k, h1, h2, h3, h4, h5⟩ := Cond.arrayOver_spec h
  exact ⟨c, fun n z => ⟨fun k h => (by cases h), k, h3, comp, h4⟩, k, comp, h3, h4, h1, h5⟩
