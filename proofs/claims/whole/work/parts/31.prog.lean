/-! the methods, block by block, in the small machine's words (written out of the listing by program) -/
/-- 0 HiddenSums$Audit.<init> -/
def pb_X0_init (J : mm_J) (C : mm_C) (Q : mm_Q) : mm_J := fun t => match t with
  | 0 => mm_lda 0 <| mm_obi <| mm_lda 0 <| mm_cst (.int 750) <| mm_nar .int (1, 750) <| mm_put [0, 0, 2] <| mm_rtv Q
  | _ => fun _ _ _ _ => False
def pp_X0_init : Nat → Nat
  | 0 => 0
  | _ => 0
/-- 1 HiddenSums$Audit.isFull -/
def pb_X0_isFull (J : mm_J) (C : mm_C) (Q : mm_Q) : mm_J := fun t => match t with
  | 0 => mm_lda 0 <| mm_get [0, 1, 0] <| mm_cst (.int 150) <| mm_icm .lt 1 J <| mm_cst (.int 1) <| mm_go 2 J
  | 1 => mm_cst (.int 0) <| mm_go 2 J
  | 2 => mm_rtz Q
  | _ => fun _ _ _ _ => False
def pp_X0_isFull : Nat → Nat
  | 0 => 0
  | 1 => 14
  | 2 => 15
  | _ => 0
/-- 2 HiddenSums$Audit.enter -/
def pb_X0_enter (J : mm_J) (C : mm_C) (Q : mm_Q) : mm_J := fun t => match t with
  | 0 => mm_lda 0 <| mm_cav 1 1 0 C <| mm_ifc .eq 1 J <| mm_rtv Q
  | 1 => mm_lda 0 <| mm_get [0, 1, 0] <| mm_cst (.int 5) <| mm_ii (fun x y => x * y) <| mm_sti 6 <| mm_lda 0 <| mm_get [0, 0, 2] <| mm_ldi 6 <| mm_ldi 1 <| mm_ast .int (fun x => x) <| mm_lda 0 <| mm_get [0, 0, 2] <| mm_ldi 6 <| mm_cst (.int 1) <| mm_ii (fun x y => x + y) <| mm_ldi 2 <| mm_ast .int (fun x => x) <| mm_lda 0 <| mm_get [0, 0, 2] <| mm_ldi 6 <| mm_cst (.int 2) <| mm_ii (fun x y => x + y) <| mm_ldi 3 <| mm_ast .int (fun x => x) <| mm_lda 0 <| mm_get [0, 0, 2] <| mm_ldi 6 <| mm_cst (.int 3) <| mm_ii (fun x y => x + y) <| mm_ldi 4 <| mm_ast .int (fun x => x) <| mm_lda 0 <| mm_get [0, 0, 2] <| mm_ldi 6 <| mm_cst (.int 4) <| mm_ii (fun x y => x + y) <| mm_ldi 5 <| mm_ast .int (fun x => x) <| mm_lda 0 <| mm_dup <| mm_get [0, 1, 0] <| mm_cst (.int 1) <| mm_ii (fun x y => x + y) <| mm_put [0, 1, 0] <| mm_rtv Q
  | _ => fun _ _ _ _ => False
def pp_X0_enter : Nat → Nat
  | 0 => 0
  | 1 => 8
  | _ => 0
/-- 3 HiddenSums$Reader.<init> -/
def pb_X1_init (J : mm_J) (C : mm_C) (Q : mm_Q) : mm_J := fun t => match t with
  | 0 => mm_lda 0 <| mm_obi <| mm_lda 0 <| mm_new 4 4 (4, 184) <| mm_dup <| mm_can 48 1 2 120 (4, 184) C <| mm_put [1, 0, 2] <| mm_lda 0 <| mm_cst (.int 60) <| mm_nar .int (4, 184) <| mm_put [1, 9, 2] <| mm_rtv Q
  | _ => fun _ _ _ _ => False
def pp_X1_init : Nat → Nat
  | 0 => 0
  | _ => 0
/-- 4 HiddenSums$Reader.read -/
def pb_X1_read (J : mm_J) (C : mm_C) (Q : mm_Q) : mm_J := fun t => match t with
  | 0 => mm_lda 0 <| mm_get [1, 0, 2] <| mm_cav 49 1 4 C <| mm_lda 0 <| mm_cst (.int 0) <| mm_put [1, 6, 0] <| mm_lda 0 <| mm_cst (.int 0) <| mm_put [1, 7, 0] <| mm_lda 0 <| mm_cst (.int 0) <| mm_put [1, 8, 0] <| mm_lda 0 <| mm_cst (.int 0) <| mm_put [1, 10, 0] <| mm_lda 0 <| mm_cst (.int 0) <| mm_put [1, 3, 0] <| mm_cst (.int 1) <| mm_sti 3 <| mm_go 1 J
  | 1 => mm_ldi 3 <| mm_cst (.int 61) <| mm_icm .gt 5 J <| mm_lda 0 <| mm_lda 1 <| mm_ldi 2 <| mm_cav 6 3 1 C <| mm_lda 0 <| mm_get [1, 4, 0] <| mm_cst (.int 1) <| mm_icm .ne 2 J <| mm_cst (.int (-1)) <| mm_go 3 J
  | 2 => mm_lda 0 <| mm_cav 13 1 1 C <| mm_go 3 J
  | 3 => mm_sti 4 <| mm_lda 0 <| mm_lda 0 <| mm_ldi 3 <| mm_ldi 4 <| mm_cav 5 3 1 C <| mm_put [1, 1, 0] <| mm_lda 0 <| mm_get [1, 1, 0] <| mm_ifc .ne 5 J <| mm_lda 0 <| mm_get [1, 4, 0] <| mm_ifc .ne 4 J <| mm_go 5 J
  | 4 => mm_lda 0 <| mm_cav 17 1 1 C <| mm_lda 0 <| mm_ldi 4 <| mm_put [1, 6, 0] <| mm_inc 3 (.int 1) <| mm_go 1 J
  | 5 => mm_lda 0 <| mm_cst (.int 1) <| mm_cav 20 2 1 C <| mm_rtv Q
  | _ => fun _ _ _ _ => False
def pp_X1_read : Nat → Nat
  | 0 => 0
  | 1 => 34
  | 2 => 58
  | 3 => 62
  | 4 => 92
  | 5 => 108
  | _ => 0
/-- 5 HiddenSums$Reader.faultOfToken -/
def pb_X1_faultOfToken (J : mm_J) (C : mm_C) (Q : mm_Q) : mm_J := fun t => match t with
  | 0 => mm_lda 0 <| mm_get [1, 4, 0] <| mm_cst (.int 1) <| mm_icm .ne 1 J <| mm_cst (.int 1) <| mm_ret Q
  | 1 => mm_ldi 2 <| mm_cst (.int (-1)) <| mm_icm .ne 2 J <| mm_cst (.int 2) <| mm_ret Q
  | 2 => mm_lda 0 <| mm_get [1, 4, 0] <| mm_cst (.int 6) <| mm_icm .eq 3 J <| mm_lda 0 <| mm_get [1, 4, 0] <| mm_cst (.int 10) <| mm_icm .ne 4 J <| mm_go 3 J
  | 3 => mm_lda 0 <| mm_get [1, 7, 0] <| mm_cst (.int 12) <| mm_icm .lt 4 J <| mm_cst (.int 1) <| mm_go 5 J
  | 4 => mm_cst (.int 0) <| mm_go 5 J
  | 5 => mm_sti 3 <| mm_ldi 3 <| mm_ifc .ne 6 J <| mm_lda 0 <| mm_get [1, 4, 0] <| mm_ifc .eq 7 J <| mm_ldi 1 <| mm_cst (.int 60) <| mm_icm .le 7 J <| mm_go 6 J
  | 6 => mm_cst (.int 3) <| mm_go 8 J
  | 7 => mm_cst (.int 0) <| mm_go 8 J
  | 8 => mm_ret Q
  | _ => fun _ _ _ _ => False
def pp_X1_faultOfToken : Nat → Nat
  | 0 => 0
  | 1 => 10
  | 2 => 17
  | 3 => 35
  | 4 => 48
  | 5 => 49
  | 6 => 67
  | 7 => 71
  | 8 => 72
  | _ => 0
/-- 6 HiddenSums$Reader.scan -/
def pb_X1_scan (J : mm_J) (C : mm_C) (Q : mm_Q) : mm_J := fun t => match t with
  | 0 => mm_lda 0 <| mm_lda 0 <| mm_get [1, 3, 0] <| mm_put [1, 2, 0] <| mm_go 1 J
  | 1 => mm_lda 0 <| mm_get [1, 2, 0] <| mm_ldi 2 <| mm_icm .ge 2 J <| mm_lda 1 <| mm_lda 0 <| mm_get [1, 2, 0] <| mm_ald .int <| mm_cst (.int 32) <| mm_icm .ne 2 J <| mm_lda 0 <| mm_dup <| mm_get [1, 2, 0] <| mm_cst (.int 1) <| mm_ii (fun x y => x + y) <| mm_put [1, 2, 0] <| mm_go 1 J
  | 2 => mm_lda 0 <| mm_cst (.int 0) <| mm_put [1, 5, 0] <| mm_lda 0 <| mm_lda 0 <| mm_get [1, 2, 0] <| mm_cst (.int 1) <| mm_ii (fun x y => x + y) <| mm_put [1, 3, 0] <| mm_lda 0 <| mm_get [1, 2, 0] <| mm_ldi 2 <| mm_icm .lt 3 J <| mm_lda 0 <| mm_cst (.int 0) <| mm_put [1, 4, 0] <| mm_go 6 J
  | 3 => mm_lda 1 <| mm_lda 0 <| mm_get [1, 2, 0] <| mm_ald .int <| mm_cas 10 1 C <| mm_ifc .eq 4 J <| mm_lda 0 <| mm_lda 1 <| mm_ldi 2 <| mm_cav 7 3 1 C <| mm_go 6 J
  | 4 => mm_lda 1 <| mm_lda 0 <| mm_get [1, 2, 0] <| mm_ald .int <| mm_cas 11 1 C <| mm_ifc .eq 5 J <| mm_lda 0 <| mm_lda 1 <| mm_ldi 2 <| mm_cav 9 3 1 C <| mm_go 6 J
  | 5 => mm_lda 0 <| mm_lda 1 <| mm_lda 0 <| mm_get [1, 2, 0] <| mm_ald .int <| mm_cas 12 1 C <| mm_put [1, 4, 0] <| mm_go 6 J
  | 6 => mm_rtv Q
  | _ => fun _ _ _ _ => False
def pp_X1_scan : Nat → Nat
  | 0 => 0
  | 1 => 8
  | 2 => 40
  | 3 => 71
  | 4 => 92
  | 5 => 113
  | 6 => 126
  | _ => 0
/-- 7 HiddenSums$Reader.scanWord -/
def pb_X1_scanWord (J : mm_J) (C : mm_C) (Q : mm_Q) : mm_J := fun t => match t with
  | 0 => mm_lda 0 <| mm_get [1, 3, 0] <| mm_ldi 2 <| mm_icm .ge 1 J <| mm_lda 1 <| mm_lda 0 <| mm_get [1, 3, 0] <| mm_ald .int <| mm_cas 10 1 C <| mm_ifc .eq 1 J <| mm_lda 0 <| mm_dup <| mm_get [1, 3, 0] <| mm_cst (.int 1) <| mm_ii (fun x y => x + y) <| mm_put [1, 3, 0] <| mm_go 0 J
  | 1 => mm_lda 0 <| mm_get [1, 3, 0] <| mm_lda 0 <| mm_get [1, 2, 0] <| mm_ii (fun x y => x - y) <| mm_cst (.int 1) <| mm_icm .ne 2 J <| mm_lda 1 <| mm_lda 0 <| mm_get [1, 2, 0] <| mm_ald .int <| mm_cst (.int 101) <| mm_icm .ge 2 J <| mm_lda 0 <| mm_cst (.int 3) <| mm_put [1, 4, 0] <| mm_lda 0 <| mm_lda 1 <| mm_lda 0 <| mm_get [1, 2, 0] <| mm_ald .int <| mm_cst (.int 97) <| mm_ii (fun x y => x - y) <| mm_put [1, 5, 0] <| mm_go 8 J
  | 2 => mm_lda 0 <| mm_lda 1 <| mm_cst (.ref (mm_ext + 1)) <| mm_cav 8 3 1 C <| mm_ifc .eq 3 J <| mm_lda 0 <| mm_cst (.int 9) <| mm_put [1, 4, 0] <| mm_go 8 J
  | 3 => mm_lda 0 <| mm_lda 1 <| mm_cst (.ref (mm_ext + 2)) <| mm_cav 8 3 1 C <| mm_ifc .eq 4 J <| mm_lda 0 <| mm_cst (.int 8) <| mm_put [1, 4, 0] <| mm_go 8 J
  | 4 => mm_lda 0 <| mm_lda 1 <| mm_cst (.ref (mm_ext + 3)) <| mm_cav 8 3 1 C <| mm_ifc .eq 5 J <| mm_lda 0 <| mm_cst (.int 10) <| mm_put [1, 4, 0] <| mm_go 8 J
  | 5 => mm_lda 0 <| mm_lda 1 <| mm_cst (.ref (mm_ext + 4)) <| mm_cav 8 3 1 C <| mm_ifc .eq 6 J <| mm_lda 0 <| mm_cst (.int 4) <| mm_put [1, 4, 0] <| mm_go 8 J
  | 6 => mm_lda 0 <| mm_lda 1 <| mm_cst (.ref (mm_ext + 5)) <| mm_cav 8 3 1 C <| mm_ifc .eq 7 J <| mm_lda 0 <| mm_cst (.int 5) <| mm_put [1, 4, 0] <| mm_go 8 J
  | 7 => mm_lda 0 <| mm_cst (.int 1) <| mm_put [1, 4, 0] <| mm_go 8 J
  | 8 => mm_rtv Q
  | _ => fun _ _ _ _ => False
def pp_X1_scanWord : Nat → Nat
  | 0 => 0
  | 1 => 33
  | 2 => 78
  | 3 => 97
  | 4 => 116
  | 5 => 135
  | 6 => 153
  | 7 => 171
  | 8 => 176
  | _ => 0
/-- 8 HiddenSums$Reader.isSpelled -/
def pb_X1_isSpelled (J : mm_J) (C : mm_C) (Q : mm_Q) : mm_J := fun t => match t with
  | 0 => mm_lda 0 <| mm_get [1, 3, 0] <| mm_lda 0 <| mm_get [1, 2, 0] <| mm_ii (fun x y => x - y) <| mm_lda 2 <| mm_css 159 1 C <| mm_icm .eq 1 J <| mm_cst (.int 0) <| mm_rtz Q
  | 1 => mm_cst (.int 0) <| mm_sti 3 <| mm_go 2 J
  | 2 => mm_ldi 3 <| mm_lda 2 <| mm_css 159 1 C <| mm_icm .ge 4 J <| mm_lda 1 <| mm_lda 0 <| mm_get [1, 2, 0] <| mm_ldi 3 <| mm_ii (fun x y => x + y) <| mm_ald .int <| mm_lda 2 <| mm_ldi 3 <| mm_css 162 2 C <| mm_icm .eq 3 J <| mm_cst (.int 0) <| mm_rtz Q
  | 3 => mm_inc 3 (.int 1) <| mm_go 2 J
  | 4 => mm_cst (.int 1) <| mm_rtz Q
  | _ => fun _ _ _ _ => False
def pp_X1_isSpelled : Nat → Nat
  | 0 => 0
  | 1 => 18
  | 2 => 20
  | 3 => 46
  | 4 => 52
  | _ => 0
/-- 9 HiddenSums$Reader.scanNumber -/
def pb_X1_scanNumber (J : mm_J) (C : mm_C) (Q : mm_Q) : mm_J := fun t => match t with
  | 0 => mm_lda 0 <| mm_lda 1 <| mm_lda 0 <| mm_get [1, 2, 0] <| mm_ald .int <| mm_cst (.int 48) <| mm_ii (fun x y => x - y) <| mm_put [1, 5, 0] <| mm_go 1 J
  | 1 => mm_lda 0 <| mm_get [1, 3, 0] <| mm_ldi 2 <| mm_icm .ge 2 J <| mm_lda 1 <| mm_lda 0 <| mm_get [1, 3, 0] <| mm_ald .int <| mm_cas 11 1 C <| mm_ifc .eq 2 J <| mm_lda 0 <| mm_lda 0 <| mm_get [1, 5, 0] <| mm_cst (.int 10) <| mm_ii (fun x y => x * y) <| mm_lda 1 <| mm_lda 0 <| mm_get [1, 3, 0] <| mm_ald .int <| mm_ii (fun x y => x + y) <| mm_cst (.int 48) <| mm_ii (fun x y => x - y) <| mm_put [1, 5, 0] <| mm_lda 0 <| mm_dup <| mm_get [1, 3, 0] <| mm_cst (.int 1) <| mm_ii (fun x y => x + y) <| mm_put [1, 3, 0] <| mm_go 1 J
  | 2 => mm_lda 0 <| mm_lda 0 <| mm_get [1, 3, 0] <| mm_lda 0 <| mm_get [1, 2, 0] <| mm_ii (fun x y => x - y) <| mm_cst (.int 4) <| mm_icm .gt 3 J <| mm_cst (.int 2) <| mm_go 4 J
  | 3 => mm_cst (.int 1) <| mm_go 4 J
  | 4 => mm_put [1, 4, 0] <| mm_rtv Q
  | _ => fun _ _ _ _ => False
def pp_X1_scanNumber : Nat → Nat
  | 0 => 0
  | 1 => 13
  | 2 => 67
  | 3 => 85
  | 4 => 86
  | _ => 0
/-- 10 HiddenSums$Reader.isLetter -/
def pb_X1_isLetter (J : mm_J) (C : mm_C) (Q : mm_Q) : mm_J := fun t => match t with
  | 0 => mm_ldi 0 <| mm_cst (.int 97) <| mm_icm .lt 1 J <| mm_ldi 0 <| mm_cst (.int 122) <| mm_icm .gt 1 J <| mm_cst (.int 1) <| mm_go 2 J
  | 1 => mm_cst (.int 0) <| mm_go 2 J
  | 2 => mm_rtz Q
  | _ => fun _ _ _ _ => False
def pp_X1_isLetter : Nat → Nat
  | 0 => 0
  | 1 => 16
  | 2 => 17
  | _ => 0
/-- 11 HiddenSums$Reader.isFigure -/
def pb_X1_isFigure (J : mm_J) (C : mm_C) (Q : mm_Q) : mm_J := fun t => match t with
  | 0 => mm_ldi 0 <| mm_cst (.int 48) <| mm_icm .lt 1 J <| mm_ldi 0 <| mm_cst (.int 57) <| mm_icm .gt 1 J <| mm_cst (.int 1) <| mm_go 2 J
  | 1 => mm_cst (.int 0) <| mm_go 2 J
  | 2 => mm_rtz Q
  | _ => fun _ _ _ _ => False
def pp_X1_isFigure : Nat → Nat
  | 0 => 0
  | 1 => 16
  | 2 => 17
  | _ => 0
/-- 12 HiddenSums$Reader.kindOfSign -/
def pb_X1_kindOfSign (J : mm_J) (C : mm_C) (Q : mm_Q) : mm_J := fun t => match t with
  | 0 => mm_ldi 0 <| mm_tsw J 40 [10, 1, 2, 5, 3, 10, 4, 10, 6, 10, 10, 10, 10, 10, 10, 10, 10, 10, 10, 10, 10, 7, 8, 9]
  | 1 => mm_cst (.int 6) <| mm_ret Q
  | 2 => mm_cst (.int 7) <| mm_ret Q
  | 3 => mm_cst (.int 14) <| mm_ret Q
  | 4 => mm_cst (.int 15) <| mm_ret Q
  | 5 => mm_cst (.int 16) <| mm_ret Q
  | 6 => mm_cst (.int 17) <| mm_ret Q
  | 7 => mm_cst (.int 11) <| mm_ret Q
  | 8 => mm_cst (.int 12) <| mm_ret Q
  | 9 => mm_cst (.int 13) <| mm_ret Q
  | 10 => mm_cst (.int 1) <| mm_ret Q
  | _ => fun _ _ _ _ => False
def pp_X1_kindOfSign : Nat → Nat
  | 0 => 0
  | 1 => 108
  | 2 => 111
  | 3 => 114
  | 4 => 117
  | 5 => 120
  | 6 => 123
  | 7 => 126
  | 8 => 129
  | 9 => 132
  | 10 => 135
  | _ => 0
/-- 13 HiddenSums$Reader.stateBehind -/
def pb_X1_stateBehind (J : mm_J) (C : mm_C) (Q : mm_Q) : mm_J := fun t => match t with
  | 0 => mm_lda 0 <| mm_get [1, 6, 0] <| mm_tsw J 0 [16, 1, 6, 7, 12, 13]
  | 1 => mm_lda 0 <| mm_get [1, 4, 0] <| mm_cst (.int 10) <| mm_icm .eq 2 J <| mm_lda 0 <| mm_get [1, 4, 0] <| mm_cst (.int 6) <| mm_icm .ne 3 J <| mm_go 2 J
  | 2 => mm_cst (.int 0) <| mm_ret Q
  | 3 => mm_lda 0 <| mm_get [1, 4, 0] <| mm_cst (.int 4) <| mm_icm .eq 4 J <| mm_lda 0 <| mm_get [1, 4, 0] <| mm_cst (.int 5) <| mm_icm .ne 5 J <| mm_go 4 J
  | 4 => mm_cst (.int 5) <| mm_ret Q
  | 5 => mm_lda 0 <| mm_cst (.int 1) <| mm_cst (.int 2) <| mm_cav 14 3 1 C <| mm_ret Q
  | 6 => mm_lda 0 <| mm_cst (.int 1) <| mm_cst (.int 2) <| mm_cav 14 3 1 C <| mm_ret Q
  | 7 => mm_lda 0 <| mm_get [1, 4, 0] <| mm_cst (.int 11) <| mm_icm .eq 8 J <| mm_lda 0 <| mm_get [1, 4, 0] <| mm_cst (.int 12) <| mm_icm .eq 8 J <| mm_lda 0 <| mm_get [1, 4, 0] <| mm_cst (.int 13) <| mm_icm .ne 9 J <| mm_go 8 J
  | 8 => mm_cst (.int 3) <| mm_ret Q
  | 9 => mm_lda 0 <| mm_cav 15 1 1 C <| mm_ifc .eq 10 J <| mm_cst (.int 1) <| mm_go 11 J
  | 10 => mm_cst (.int (-1)) <| mm_go 11 J
  | 11 => mm_ret Q
  | 12 => mm_lda 0 <| mm_cst (.int 3) <| mm_cst (.int 4) <| mm_cav 14 3 1 C <| mm_ret Q
  | 13 => mm_lda 0 <| mm_cav 15 1 1 C <| mm_ifc .eq 14 J <| mm_cst (.int 3) <| mm_go 15 J
  | 14 => mm_lda 0 <| mm_cav 16 1 1 C <| mm_go 15 J
  | 15 => mm_ret Q
  | 16 => mm_lda 0 <| mm_cav 16 1 1 C <| mm_ret Q
  | _ => fun _ _ _ _ => False
def pp_X1_stateBehind : Nat → Nat
  | 0 => 0
  | 1 => 40
  | 2 => 58
  | 3 => 60
  | 4 => 76
  | 5 => 78
  | 6 => 85
  | 7 => 92
  | 8 => 119
  | 9 => 121
  | 10 => 132
  | 11 => 133
  | 12 => 134
  | 13 => 141
  | 14 => 152
  | 15 => 156
  | 16 => 157
  | _ => 0
/-- 14 HiddenSums$Reader.behindLeaf -/
def pb_X1_behindLeaf (J : mm_J) (C : mm_C) (Q : mm_Q) : mm_J := fun t => match t with
  | 0 => mm_lda 0 <| mm_get [1, 4, 0] <| mm_cst (.int 3) <| mm_icm .eq 1 J <| mm_lda 0 <| mm_get [1, 4, 0] <| mm_cst (.int 2) <| mm_icm .ne 2 J <| mm_go 1 J
  | 1 => mm_ldi 2 <| mm_ret Q
  | 2 => mm_lda 0 <| mm_get [1, 4, 0] <| mm_cst (.int 15) <| mm_icm .ne 3 J <| mm_ldi 1 <| mm_go 4 J
  | 3 => mm_cst (.int (-1)) <| mm_go 4 J
  | 4 => mm_ret Q
  | _ => fun _ _ _ _ => False
def pp_X1_behindLeaf : Nat → Nat
  | 0 => 0
  | 1 => 16
  | 2 => 18
  | 3 => 31
  | 4 => 32
  | _ => 0
/-- 15 HiddenSums$Reader.goesOnSum -/
def pb_X1_goesOnSum (J : mm_J) (C : mm_C) (Q : mm_Q) : mm_J := fun t => match t with
  | 0 => mm_lda 0 <| mm_get [1, 4, 0] <| mm_cst (.int 14) <| mm_icm .eq 1 J <| mm_lda 0 <| mm_get [1, 4, 0] <| mm_cst (.int 15) <| mm_icm .eq 1 J <| mm_lda 0 <| mm_get [1, 4, 0] <| mm_cst (.int 16) <| mm_icm .eq 1 J <| mm_lda 0 <| mm_get [1, 4, 0] <| mm_cst (.int 17) <| mm_icm .ne 2 J <| mm_go 1 J
  | 1 => mm_cst (.int 1) <| mm_go 3 J
  | 2 => mm_cst (.int 0) <| mm_go 3 J
  | 3 => mm_rtz Q
  | _ => fun _ _ _ _ => False
def pp_X1_goesOnSum : Nat → Nat
  | 0 => 0
  | 1 => 36
  | 2 => 40
  | 3 => 41
  | _ => 0
/-- 16 HiddenSums$Reader.behindOne -/
def pb_X1_behindOne (J : mm_J) (C : mm_C) (Q : mm_Q) : mm_J := fun t => match t with
  | 0 => mm_lda 0 <| mm_get [1, 4, 0] <| mm_cst (.int 9) <| mm_icm .eq 1 J <| mm_lda 0 <| mm_get [1, 4, 0] <| mm_cst (.int 8) <| mm_icm .ne 2 J <| mm_go 1 J
  | 1 => mm_cst (.int 0) <| mm_ret Q
  | 2 => mm_lda 0 <| mm_get [1, 4, 0] <| mm_cst (.int 7) <| mm_icm .ne 3 J <| mm_lda 0 <| mm_get [1, 8, 0] <| mm_ifc .le 3 J <| mm_cst (.int 5) <| mm_ret Q
  | 3 => mm_lda 0 <| mm_get [1, 4, 0] <| mm_ifc .ne 4 J <| mm_lda 0 <| mm_get [1, 8, 0] <| mm_ifc .ne 4 J <| mm_cst (.int 6) <| mm_go 5 J
  | 4 => mm_cst (.int (-1)) <| mm_go 5 J
  | 5 => mm_ret Q
  | _ => fun _ _ _ _ => False
def pp_X1_behindOne : Nat → Nat
  | 0 => 0
  | 1 => 18
  | 2 => 20
  | 3 => 38
  | 4 => 57
  | 5 => 58
  | _ => 0
/-- 17 HiddenSums$Reader.take -/
def pb_X1_take (J : mm_J) (C : mm_C) (Q : mm_Q) : mm_J := fun t => match t with
  | 0 => mm_lda 0 <| mm_get [1, 4, 0] <| mm_tsw J 2 [5, 1, 1, 1, 1, 2, 4, 5, 5, 3]
  | 1 => mm_lda 0 <| mm_get [1, 0, 2] <| mm_lda 0 <| mm_get [1, 4, 0] <| mm_lda 0 <| mm_get [1, 5, 0] <| mm_cav 50 3 4 C <| mm_go 6 J
  | 2 => mm_lda 0 <| mm_dup <| mm_get [1, 8, 0] <| mm_cst (.int 1) <| mm_ii (fun x y => x + y) <| mm_put [1, 8, 0] <| mm_lda 0 <| mm_dup <| mm_get [1, 7, 0] <| mm_cst (.int 1) <| mm_ii (fun x y => x + y) <| mm_put [1, 7, 0] <| mm_lda 0 <| mm_cst (.int 6) <| mm_cav 19 2 1 C <| mm_go 6 J
  | 3 => mm_lda 0 <| mm_dup <| mm_get [1, 7, 0] <| mm_cst (.int 1) <| mm_ii (fun x y => x + y) <| mm_put [1, 7, 0] <| mm_lda 0 <| mm_cst (.int 10) <| mm_cav 19 2 1 C <| mm_go 6 J
  | 4 => mm_lda 0 <| mm_cst (.int 1) <| mm_cav 20 2 1 C <| mm_lda 0 <| mm_cav 21 1 1 C <| mm_go 6 J
  | 5 => mm_lda 0 <| mm_cav 18 1 1 C <| mm_go 6 J
  | 6 => mm_rtv Q
  | _ => fun _ _ _ _ => False
def pp_X1_take : Nat → Nat
  | 0 => 0
  | 1 => 56
  | 2 => 74
  | 3 => 103
  | 4 => 122
  | 5 => 134
  | 6 => 138
  | _ => 0
/-- 18 HiddenSums$Reader.takeOperator -/
def pb_X1_takeOperator (J : mm_J) (C : mm_C) (Q : mm_Q) : mm_J := fun t => match t with
  | 0 => mm_lda 0 <| mm_get [1, 4, 0] <| mm_cst (.int 15) <| mm_icm .ne 1 J <| mm_lda 0 <| mm_get [1, 6, 0] <| mm_cst (.int 2) <| mm_icm .eq 1 J <| mm_lda 0 <| mm_get [1, 6, 0] <| mm_cst (.int 4) <| mm_icm .eq 1 J <| mm_lda 0 <| mm_cst (.int 18) <| mm_cav 19 2 1 C <| mm_rtv Q
  | 1 => mm_lda 0 <| mm_cst (.ref mm_ext) <| mm_lda 0 <| mm_get [1, 4, 0] <| mm_rk px_rk 19 <| mm_cav 20 2 1 C <| mm_lda 0 <| mm_lda 0 <| mm_get [1, 4, 0] <| mm_cav 19 2 1 C <| mm_rtv Q
  | _ => fun _ _ _ _ => False
def pp_X1_takeOperator : Nat → Nat
  | 0 => 0
  | 1 => 32
  | _ => 0
/-- 19 HiddenSums$Reader.hold -/
def pb_X1_hold (J : mm_J) (C : mm_C) (Q : mm_Q) : mm_J := fun t => match t with
  | 0 => mm_lda 0 <| mm_get [1, 10, 0] <| mm_cst (.int 60) <| mm_icm .ge 1 J <| mm_lda 0 <| mm_get [1, 9, 2] <| mm_lda 0 <| mm_get [1, 10, 0] <| mm_ldi 1 <| mm_ast .int (fun x => x) <| mm_lda 0 <| mm_dup <| mm_get [1, 10, 0] <| mm_cst (.int 1) <| mm_ii (fun x y => x + y) <| mm_put [1, 10, 0] <| mm_go 1 J
  | 1 => mm_rtv Q
  | _ => fun _ _ _ _ => False
def pp_X1_hold : Nat → Nat
  | 0 => 0
  | 1 => 29
  | _ => 0
/-- 20 HiddenSums$Reader.settle -/
def pb_X1_settle (J : mm_J) (C : mm_C) (Q : mm_Q) : mm_J := fun t => match t with
  | 0 => mm_lda 0 <| mm_get [1, 10, 0] <| mm_ifc .le 2 J <| mm_cst (.ref mm_ext) <| mm_lda 0 <| mm_get [1, 9, 2] <| mm_lda 0 <| mm_get [1, 10, 0] <| mm_cst (.int 1) <| mm_ii (fun x y => x - y) <| mm_ald .int <| mm_rk px_rk 19 <| mm_ldi 1 <| mm_icm .lt 2 J <| mm_lda 0 <| mm_dup <| mm_get [1, 10, 0] <| mm_cst (.int 1) <| mm_ii (fun x y => x - y) <| mm_put [1, 10, 0] <| mm_lda 0 <| mm_get [1, 9, 2] <| mm_lda 0 <| mm_get [1, 10, 0] <| mm_ald .int <| mm_cst (.int 10) <| mm_icm .ne 1 J <| mm_lda 0 <| mm_dup <| mm_get [1, 7, 0] <| mm_cst (.int 1) <| mm_ii (fun x y => x - y) <| mm_put [1, 7, 0] <| mm_go 1 J
  | 1 => mm_lda 0 <| mm_get [1, 0, 2] <| mm_lda 0 <| mm_get [1, 9, 2] <| mm_lda 0 <| mm_get [1, 10, 0] <| mm_ald .int <| mm_cst (.int 0) <| mm_cav 50 3 4 C <| mm_go 0 J
  | 2 => mm_rtv Q
  | _ => fun _ _ _ _ => False
def pp_X1_settle : Nat → Nat
  | 0 => 0
  | 1 => 60
  | 2 => 80
  | _ => 0
/-- 21 HiddenSums$Reader.dropBracket -/
def pb_X1_dropBracket (J : mm_J) (C : mm_C) (Q : mm_Q) : mm_J := fun t => match t with
  | 0 => mm_lda 0 <| mm_get [1, 10, 0] <| mm_ifc .le 1 J <| mm_lda 0 <| mm_dup <| mm_get [1, 10, 0] <| mm_cst (.int 1) <| mm_ii (fun x y => x - y) <| mm_put [1, 10, 0] <| mm_lda 0 <| mm_dup <| mm_get [1, 8, 0] <| mm_cst (.int 1) <| mm_ii (fun x y => x - y) <| mm_put [1, 8, 0] <| mm_lda 0 <| mm_dup <| mm_get [1, 7, 0] <| mm_cst (.int 1) <| mm_ii (fun x y => x - y) <| mm_put [1, 7, 0] <| mm_go 1 J
  | 1 => mm_rtv Q
  | _ => fun _ _ _ _ => False
def pp_X1_dropBracket : Nat → Nat
  | 0 => 0
  | 1 => 37
  | _ => 0
/-- 22 HiddenSums$Reckoner.<init> -/
def pb_X2_init (J : mm_J) (C : mm_C) (Q : mm_Q) : mm_J := fun t => match t with
  | 0 => mm_lda 0 <| mm_obi <| mm_lda 0 <| mm_cst (.int 60) <| mm_nar .long (2, 120) <| mm_put [2, 0, 2] <| mm_lda 0 <| mm_cst (.int 60) <| mm_nar .boolean (2, 120) <| mm_put [2, 1, 2] <| mm_rtv Q
  | _ => fun _ _ _ _ => False
def pp_X2_init : Nat → Nat
  | 0 => 0
  | _ => 0
/-- 23 HiddenSums$Reckoner.truth -/
def pb_X2_truth (J : mm_J) (C : mm_C) (Q : mm_Q) : mm_J := fun t => match t with
  | 0 => mm_lda 0 <| mm_cst (.int 0) <| mm_put [2, 2, 0] <| mm_cst (.int 0) <| mm_sti 4 <| mm_go 1 J
  | 1 => mm_ldi 4 <| mm_lda 1 <| mm_get [4, 2, 0] <| mm_icm .ge 2 J <| mm_lda 0 <| mm_lda 1 <| mm_get [4, 0, 2] <| mm_ldi 4 <| mm_ald .int <| mm_lda 1 <| mm_get [4, 1, 2] <| mm_ldi 4 <| mm_ald .int <| mm_lda 2 <| mm_ldi 3 <| mm_cav 24 5 2 C <| mm_inc 4 (.int 1) <| mm_go 1 J
  | 2 => mm_lda 0 <| mm_get [2, 2, 0] <| mm_cst (.int 1) <| mm_icm .lt 3 J <| mm_lda 0 <| mm_get [2, 1, 2] <| mm_cst (.int 0) <| mm_ald .boolean <| mm_ifc .eq 4 J <| mm_go 3 J
  | 3 => mm_cst (.int 2) <| mm_ret Q
  | 4 => mm_lda 0 <| mm_get [2, 0, 2] <| mm_cst (.int 0) <| mm_lld <| mm_cst (.long 0) <| mm_cmp <| mm_ifc .eq 5 J <| mm_cst (.int 1) <| mm_go 6 J
  | 5 => mm_cst (.int 0) <| mm_go 6 J
  | 6 => mm_ret Q
  | _ => fun _ _ _ _ => False
def pp_X2_truth : Nat → Nat
  | 0 => 0
  | 1 => 8
  | 2 => 43
  | 3 => 60
  | 4 => 62
  | 5 => 77
  | 6 => 78
  | _ => 0
/-- 24 HiddenSums$Reckoner.carryOut -/
def pb_X2_carryOut (J : mm_J) (C : mm_C) (Q : mm_Q) : mm_J := fun t => match t with
  | 0 => mm_ldi 1 <| mm_tsw J 2 [6, 1, 2, 3, 4, 6, 6, 6, 6, 5, 6, 6, 6, 6, 6, 6, 6, 5]
  | 1 => mm_lda 0 <| mm_ldi 2 <| mm_i2l <| mm_cav 25 2 2 C <| mm_go 7 J
  | 2 => mm_lda 0 <| mm_lda 3 <| mm_ldi 4 <| mm_ldi 2 <| mm_ii (fun x y => x + y) <| mm_ald .int <| mm_i2l <| mm_cav 25 2 2 C <| mm_go 7 J
  | 3 => mm_lda 0 <| mm_cst (.long 1) <| mm_cav 25 2 2 C <| mm_go 7 J
  | 4 => mm_lda 0 <| mm_cst (.long 0) <| mm_cav 25 2 2 C <| mm_go 7 J
  | 5 => mm_lda 0 <| mm_ldi 1 <| mm_cav 26 2 2 C <| mm_go 7 J
  | 6 => mm_lda 0 <| mm_ldi 1 <| mm_cav 27 2 2 C <| mm_go 7 J
  | 7 => mm_rtv Q
  | _ => fun _ _ _ _ => False
def pp_X2_carryOut : Nat → Nat
  | 0 => 0
  | 1 => 84
  | 2 => 93
  | 3 => 107
  | 4 => 115
  | 5 => 123
  | 6 => 131
  | 7 => 136
  | _ => 0
/-- 25 HiddenSums$Reckoner.push -/
def pb_X2_push (J : mm_J) (C : mm_C) (Q : mm_Q) : mm_J := fun t => match t with
  | 0 => mm_lda 0 <| mm_get [2, 2, 0] <| mm_cst (.int 60) <| mm_icm .ge 1 J <| mm_lda 0 <| mm_get [2, 0, 2] <| mm_lda 0 <| mm_get [2, 2, 0] <| mm_ldl 1 <| mm_lst <| mm_lda 0 <| mm_get [2, 1, 2] <| mm_lda 0 <| mm_get [2, 2, 0] <| mm_cst (.int 0) <| mm_ast .boolean (vp_nar .boolean) <| mm_lda 0 <| mm_dup <| mm_get [2, 2, 0] <| mm_cst (.int 1) <| mm_ii (fun x y => x + y) <| mm_put [2, 2, 0] <| mm_go 1 J
  | 1 => mm_rtv Q
  | _ => fun _ _ _ _ => False
def pp_X2_push : Nat → Nat
  | 0 => 0
  | 1 => 39
  | _ => 0
/-- 26 HiddenSums$Reckoner.turn -/
def pb_X2_turn (J : mm_J) (C : mm_C) (Q : mm_Q) : mm_J := fun t => match t with
  | 0 => mm_lda 0 <| mm_get [2, 2, 0] <| mm_cst (.int 1) <| mm_icm .ge 1 J <| mm_rtv Q
  | 1 => mm_lda 0 <| mm_get [2, 0, 2] <| mm_lda 0 <| mm_get [2, 2, 0] <| mm_cst (.int 1) <| mm_ii (fun x y => x - y) <| mm_lld <| mm_stl 2 <| mm_lda 0 <| mm_get [2, 0, 2] <| mm_lda 0 <| mm_get [2, 2, 0] <| mm_cst (.int 1) <| mm_ii (fun x y => x - y) <| mm_ldi 1 <| mm_cst (.int 10) <| mm_icm .ne 2 J <| mm_cst (.long 1) <| mm_ldl 2 <| mm_ll (fun x y => x - y) <| mm_go 3 J
  | 2 => mm_ldl 2 <| mm_l1 (fun x => -x) <| mm_go 3 J
  | 3 => mm_lst <| mm_rtv Q
  | _ => fun _ _ _ _ => False
def pp_X2_turn : Nat → Nat
  | 0 => 0
  | 1 => 9
  | 2 => 43
  | 3 => 45
  | _ => 0
/-- 27 HiddenSums$Reckoner.join -/
def pb_X2_join (J : mm_J) (C : mm_C) (Q : mm_Q) : mm_J := fun t => match t with
  | 0 => mm_lda 0 <| mm_get [2, 2, 0] <| mm_cst (.int 2) <| mm_icm .ge 1 J <| mm_rtv Q
  | 1 => mm_lda 0 <| mm_dup <| mm_get [2, 2, 0] <| mm_cst (.int 1) <| mm_ii (fun x y => x - y) <| mm_put [2, 2, 0] <| mm_ldi 1 <| mm_cst (.int 9) <| mm_icm .eq 2 J <| mm_ldi 1 <| mm_cst (.int 8) <| mm_icm .ne 5 J <| mm_go 2 J
  | 2 => mm_lda 0 <| mm_ldi 1 <| mm_cst (.int 8) <| mm_icm .ne 3 J <| mm_cst (.int 1) <| mm_go 4 J
  | 3 => mm_cst (.int 0) <| mm_go 4 J
  | 4 => mm_cav 28 2 2 C <| mm_rtv Q
  | 5 => mm_lda 0 <| mm_get [2, 0, 2] <| mm_lda 0 <| mm_get [2, 2, 0] <| mm_lld <| mm_stl 2 <| mm_lda 0 <| mm_get [2, 1, 2] <| mm_lda 0 <| mm_get [2, 2, 0] <| mm_cst (.int 1) <| mm_ii (fun x y => x - y) <| mm_ald .boolean <| mm_ifc .ne 6 J <| mm_lda 0 <| mm_get [2, 1, 2] <| mm_lda 0 <| mm_get [2, 2, 0] <| mm_ald .boolean <| mm_ifc .ne 6 J <| mm_ldi 1 <| mm_cst (.int 17) <| mm_icm .ne 7 J <| mm_ldl 2 <| mm_cst (.long 0) <| mm_cmp <| mm_ifc .ne 7 J <| mm_go 6 J
  | 6 => mm_cst (.int 1) <| mm_go 8 J
  | 7 => mm_cst (.int 0) <| mm_go 8 J
  | 8 => mm_sti 4 <| mm_lda 0 <| mm_get [2, 0, 2] <| mm_lda 0 <| mm_get [2, 2, 0] <| mm_cst (.int 1) <| mm_ii (fun x y => x - y) <| mm_ldi 4 <| mm_ifc .eq 9 J <| mm_cst (.long 0) <| mm_go 10 J
  | 9 => mm_ldi 1 <| mm_lda 0 <| mm_get [2, 0, 2] <| mm_lda 0 <| mm_get [2, 2, 0] <| mm_cst (.int 1) <| mm_ii (fun x y => x - y) <| mm_lld <| mm_ldl 2 <| mm_cas 29 3 C <| mm_go 10 J
  | 10 => mm_lst <| mm_lda 0 <| mm_get [2, 1, 2] <| mm_lda 0 <| mm_get [2, 2, 0] <| mm_cst (.int 1) <| mm_ii (fun x y => x - y) <| mm_ldi 4 <| mm_ast .boolean (vp_nar .boolean) <| mm_rtv Q
  | _ => fun _ _ _ _ => False
def pp_X2_join : Nat → Nat
  | 0 => 0
  | 1 => 9
  | 2 => 31
  | 3 => 42
  | 4 => 43
  | 5 => 47
  | 6 => 95
  | 7 => 99
  | 8 => 100
  | 9 => 121
  | 10 => 137
  | _ => 0
/-- 28 HiddenSums$Reckoner.joinTruths -/
def pb_X2_joinTruths (J : mm_J) (C : mm_C) (Q : mm_Q) : mm_J := fun t => match t with
  | 0 => mm_lda 0 <| mm_get [2, 2, 0] <| mm_cst (.int 1) <| mm_ii (fun x y => x - y) <| mm_sti 2 <| mm_lda 0 <| mm_get [2, 1, 2] <| mm_ldi 2 <| mm_ald .boolean <| mm_ifc .ne 1 J <| mm_lda 0 <| mm_get [2, 0, 2] <| mm_ldi 2 <| mm_lld <| mm_ldi 1 <| mm_i2l <| mm_cmp <| mm_ifc .eq 2 J <| mm_go 1 J
  | 1 => mm_lda 0 <| mm_get [2, 1, 2] <| mm_lda 0 <| mm_get [2, 2, 0] <| mm_ald .boolean <| mm_ifc .ne 3 J <| mm_lda 0 <| mm_get [2, 0, 2] <| mm_lda 0 <| mm_get [2, 2, 0] <| mm_lld <| mm_ldi 1 <| mm_i2l <| mm_cmp <| mm_ifc .ne 3 J <| mm_go 2 J
  | 2 => mm_cst (.int 1) <| mm_go 4 J
  | 3 => mm_cst (.int 0) <| mm_go 4 J
  | 4 => mm_sti 3 <| mm_lda 0 <| mm_get [2, 1, 2] <| mm_ldi 2 <| mm_ldi 3 <| mm_ifc .ne 6 J <| mm_lda 0 <| mm_get [2, 1, 2] <| mm_ldi 2 <| mm_ald .boolean <| mm_ifc .ne 5 J <| mm_lda 0 <| mm_get [2, 1, 2] <| mm_lda 0 <| mm_get [2, 2, 0] <| mm_ald .boolean <| mm_ifc .eq 6 J <| mm_go 5 J
  | 5 => mm_cst (.int 1) <| mm_go 7 J
  | 6 => mm_cst (.int 0) <| mm_go 7 J
  | 7 => mm_ast .boolean (vp_nar .boolean) <| mm_lda 0 <| mm_get [2, 0, 2] <| mm_ldi 2 <| mm_ldi 3 <| mm_ifc .eq 8 J <| mm_ldi 1 <| mm_i2l <| mm_go 9 J
  | 8 => mm_cst (.int 1) <| mm_ldi 1 <| mm_ii (fun x y => x - y) <| mm_i2l <| mm_go 9 J
  | 9 => mm_lst <| mm_rtv Q
  | _ => fun _ _ _ _ => False
def pp_X2_joinTruths : Nat → Nat
  | 0 => 0
  | 1 => 28
  | 2 => 55
  | 3 => 59
  | 4 => 60
  | 5 => 91
  | 6 => 95
  | 7 => 96
  | 8 => 111
  | 9 => 115
  | _ => 0
/-- 29 HiddenSums$Reckoner.reckon -/
def pb_X2_reckon (J : mm_J) (C : mm_C) (Q : mm_Q) : mm_J := fun t => match t with
  | 0 => mm_ldi 0 <| mm_tsw J 11 [13, 7, 10, 13, 1, 2, 3, 4]
  | 1 => mm_ldl 1 <| mm_ldl 3 <| mm_ll (fun x y => x + y) <| mm_rtl Q
  | 2 => mm_ldl 1 <| mm_ldl 3 <| mm_ll (fun x y => x - y) <| mm_rtl Q
  | 3 => mm_ldl 1 <| mm_ldl 3 <| mm_ll (fun x y => x * y) <| mm_rtl Q
  | 4 => mm_ldl 3 <| mm_cst (.long 0) <| mm_cmp <| mm_ifc .ne 5 J <| mm_cst (.long 0) <| mm_go 6 J
  | 5 => mm_ldl 1 <| mm_ldl 3 <| mm_ld (fun x y => x / y) <| mm_go 6 J
  | 6 => mm_rtl Q
  | 7 => mm_ldl 1 <| mm_ldl 3 <| mm_cmp <| mm_ifc .ge 8 J <| mm_cst (.long 1) <| mm_go 9 J
  | 8 => mm_cst (.long 0) <| mm_go 9 J
  | 9 => mm_rtl Q
  | 10 => mm_ldl 1 <| mm_ldl 3 <| mm_cmp <| mm_ifc .ne 11 J <| mm_cst (.long 1) <| mm_go 12 J
  | 11 => mm_cst (.long 0) <| mm_go 12 J
  | 12 => mm_rtl Q
  | 13 => mm_ldl 1 <| mm_ldl 3 <| mm_cmp <| mm_ifc .le 14 J <| mm_cst (.long 1) <| mm_go 15 J
  | 14 => mm_cst (.long 0) <| mm_go 15 J
  | 15 => mm_rtl Q
  | _ => fun _ _ _ _ => False
def pp_X2_reckon : Nat → Nat
  | 0 => 0
  | 1 => 44
  | 2 => 48
  | 3 => 52
  | 4 => 56
  | 5 => 66
  | 6 => 69
  | 7 => 70
  | 8 => 80
  | 9 => 81
  | 10 => 82
  | 11 => 92
  | 12 => 93
  | 13 => 94
  | 14 => 104
  | 15 => 105
  | _ => 0
/-- 30 HiddenSums$Reduced.<init> -/
def pb_X3_init (J : mm_J) (C : mm_C) (Q : mm_Q) : mm_J := fun t => match t with
  | 0 => mm_lda 0 <| mm_obi <| mm_lda 0 <| mm_cst (.int 156) <| mm_nar .long (1, 156) <| mm_put [3, 0, 2] <| mm_rtv Q
  | _ => fun _ _ _ _ => False
def pp_X3_init : Nat → Nat
  | 0 => 0
  | _ => 0
/-- 31 HiddenSums$Reduced.forget -/
def pb_X3_forget (J : mm_J) (C : mm_C) (Q : mm_Q) : mm_J := fun t => match t with
  | 0 => mm_lda 0 <| mm_get [3, 0, 2] <| mm_cst (.long 0) <| mm_cas 158 2 C <| mm_rtv Q
  | _ => fun _ _ _ _ => False
def pp_X3_forget : Nat → Nat
  | 0 => 0
  | _ => 0
/-- 32 HiddenSums$Reduced.copyFrom -/
def pb_X3_copyFrom (J : mm_J) (C : mm_C) (Q : mm_Q) : mm_J := fun t => match t with
  | 0 => mm_lda 1 <| mm_get [3, 0, 2] <| mm_cst (.int 0) <| mm_lda 0 <| mm_get [3, 0, 2] <| mm_cst (.int 0) <| mm_lda 0 <| mm_get [3, 0, 2] <| mm_len <| mm_cpl <| mm_rtv Q
  | _ => fun _ _ _ _ => False
def pp_X3_copyFrom : Nat → Nat
  | 0 => 0
  | _ => 0
/-- 33 HiddenSums$Reduced.countRows -/
def pb_X3_countRows (J : mm_J) (C : mm_C) (Q : mm_Q) : mm_J := fun t => match t with
  | 0 => mm_cst (.int 0) <| mm_sti 1 <| mm_cst (.int 0) <| mm_sti 2 <| mm_go 1 J
  | 1 => mm_ldi 2 <| mm_cst (.int 12) <| mm_icm .ge 3 J <| mm_lda 0 <| mm_ldi 2 <| mm_cav 40 2 3 C <| mm_ifc .eq 2 J <| mm_inc 1 (.int 1) <| mm_go 2 J
  | 2 => mm_inc 2 (.int 1) <| mm_go 1 J
  | 3 => mm_ldi 1 <| mm_ret Q
  | _ => fun _ _ _ _ => False
def pp_X3_countRows : Nat → Nat
  | 0 => 0
  | 1 => 4
  | 2 => 21
  | 3 => 27
  | _ => 0
/-- 34 HiddenSums$Reduced.isSolved -/
def pb_X3_isSolved (J : mm_J) (C : mm_C) (Q : mm_Q) : mm_J := fun t => match t with
  | 0 => mm_lda 0 <| mm_ldi 1 <| mm_cav 40 2 3 C <| mm_ifc .eq 1 J <| mm_lda 0 <| mm_ldi 1 <| mm_cav 41 2 3 C <| mm_cst (.int (-1)) <| mm_icm .ne 1 J <| mm_cst (.int 1) <| mm_go 2 J
  | 1 => mm_cst (.int 0) <| mm_go 2 J
  | 2 => mm_rtz Q
  | _ => fun _ _ _ _ => False
def pp_X3_isSolved : Nat → Nat
  | 0 => 0
  | 1 => 21
  | 2 => 22
  | _ => 0
/-- 35 HiddenSums$Reduced.solvedSet -/
def pb_X3_solvedSet (J : mm_J) (C : mm_C) (Q : mm_Q) : mm_J := fun t => match t with
  | 0 => mm_cst (.int 0) <| mm_sti 1 <| mm_cst (.int 0) <| mm_sti 2 <| mm_go 1 J
  | 1 => mm_ldi 2 <| mm_cst (.int 12) <| mm_icm .ge 3 J <| mm_lda 0 <| mm_ldi 2 <| mm_cav 34 2 3 C <| mm_ifc .eq 2 J <| mm_ldi 1 <| mm_cst (.int 1) <| mm_ldi 2 <| mm_ii (fun x y => x <<< (y &&& 31)) <| mm_ii (fun x y => x ||| y) <| mm_sti 1 <| mm_go 2 J
  | 2 => mm_inc 2 (.int 1) <| mm_go 1 J
  | 3 => mm_ldi 1 <| mm_ret Q
  | _ => fun _ _ _ _ => False
def pp_X3_solvedSet : Nat → Nat
  | 0 => 0
  | 1 => 4
  | 2 => 24
  | 3 => 30
  | _ => 0
/-- 36 HiddenSums$Reduced.learn -/
def pb_X3_learn (J : mm_J) (C : mm_C) (Q : mm_Q) : mm_J := fun t => match t with
  | 0 => mm_cst (.int 0) <| mm_sti 2 <| mm_go 1 J
  | 1 => mm_ldi 2 <| mm_cst (.int 12) <| mm_icm .ge 2 J <| mm_lda 0 <| mm_get [3, 0, 2] <| mm_cst (.int 144) <| mm_ldi 2 <| mm_ii (fun x y => x + y) <| mm_ldi 1 <| mm_ldi 2 <| mm_ii (fun x y => x >>> (y &&& 31)) <| mm_cst (.int 1) <| mm_ii (fun x y => x &&& y) <| mm_i2l <| mm_lst <| mm_inc 2 (.int 1) <| mm_go 1 J
  | 2 => mm_cst (.int 0) <| mm_sti 2 <| mm_go 3 J
  | 3 => mm_ldi 2 <| mm_cst (.int 12) <| mm_icm .ge 5 J <| mm_lda 0 <| mm_ldi 2 <| mm_cav 40 2 3 C <| mm_ifc .eq 4 J <| mm_lda 0 <| mm_ldi 2 <| mm_cst (.int 12) <| mm_cav 43 3 3 C <| mm_go 4 J
  | 4 => mm_inc 2 (.int 1) <| mm_go 3 J
  | 5 => mm_lda 0 <| mm_cst (.int 12) <| mm_cst (.int 0) <| mm_cav 42 3 3 C <| mm_sti 2 <| mm_ldi 2 <| mm_cst (.int (-1)) <| mm_icm .ne 6 J <| mm_rtv Q
  | 6 => mm_lda 0 <| mm_ldi 2 <| mm_cav 44 2 3 C <| mm_cst (.int 0) <| mm_sti 3 <| mm_go 7 J
  | 7 => mm_ldi 3 <| mm_ldi 2 <| mm_icm .ge 9 J <| mm_lda 0 <| mm_ldi 3 <| mm_cav 40 2 3 C <| mm_ifc .eq 8 J <| mm_lda 0 <| mm_ldi 2 <| mm_ldi 3 <| mm_cav 43 3 3 C <| mm_go 8 J
  | 8 => mm_inc 3 (.int 1) <| mm_go 7 J
  | 9 => mm_rtv Q
  | _ => fun _ _ _ _ => False
def pp_X3_learn : Nat → Nat
  | 0 => 0
  | 1 => 2
  | 2 => 30
  | 3 => 32
  | 4 => 53
  | 5 => 59
  | 6 => 73
  | 7 => 80
  | 8 => 99
  | 9 => 105
  | _ => 0
/-- 37 HiddenSums$Reduced.otherWorld -/
def pb_X3_otherWorld (J : mm_J) (C : mm_C) (Q : mm_Q) : mm_J := fun t => match t with
  | 0 => mm_lda 0 <| mm_ldi 1 <| mm_cav 40 2 3 C <| mm_ifc .eq 1 J <| mm_lda 0 <| mm_ldi 1 <| mm_cav 41 2 3 C <| mm_go 2 J
  | 1 => mm_ldi 1 <| mm_go 2 J
  | 2 => mm_sti 3 <| mm_ldi 3 <| mm_cst (.int (-1)) <| mm_icm .ne 3 J <| mm_cst (.long 0) <| mm_rtl Q
  | 3 => mm_lda 0 <| mm_ldi 3 <| mm_cav 38 2 3 C <| mm_stl 4 <| mm_ldi 2 <| mm_ldi 3 <| mm_icm .ne 4 J <| mm_ldl 4 <| mm_rtl Q
  | 4 => mm_lda 0 <| mm_ldi 2 <| mm_ldi 2 <| mm_cav 39 3 3 C <| mm_stl 6 <| mm_ldl 6 <| mm_cst (.long 0) <| mm_cmp <| mm_ifc .ne 5 J <| mm_cst (.long 0) <| mm_go 6 J
  | 5 => mm_lda 0 <| mm_ldi 2 <| mm_ldi 3 <| mm_cav 39 3 3 C <| mm_l1 (fun x => -x) <| mm_ldl 4 <| mm_ll (fun x y => x * y) <| mm_ldl 6 <| mm_ld (fun x y => x / y) <| mm_go 6 J
  | 6 => mm_rtl Q
  | _ => fun _ _ _ _ => False
def pp_X3_otherWorld : Nat → Nat
  | 0 => 0
  | 1 => 16
  | 2 => 17
  | 3 => 25
  | 4 => 40
  | 5 => 59
  | 6 => 72
  | _ => 0
/-- 38 HiddenSums$Reduced.leastThatMakesWhole -/
def pb_X3_leastThatMakesWhole (J : mm_J) (C : mm_C) (Q : mm_Q) : mm_J := fun t => match t with
  | 0 => mm_cst (.long 1) <| mm_stl 2 <| mm_cst (.int 0) <| mm_sti 4 <| mm_go 1 J
  | 1 => mm_ldi 4 <| mm_cst (.int 12) <| mm_icm .ge 5 J <| mm_lda 0 <| mm_ldi 4 <| mm_ldi 4 <| mm_cav 39 3 3 C <| mm_stl 5 <| mm_ldl 5 <| mm_lda 0 <| mm_ldi 4 <| mm_ldi 1 <| mm_cav 39 3 3 C <| mm_cas 47 2 C <| mm_stl 7 <| mm_ldl 5 <| mm_cst (.long 0) <| mm_cmp <| mm_ifc .eq 4 J <| mm_ldl 7 <| mm_cst (.long 0) <| mm_cmp <| mm_ifc .eq 4 J <| mm_ldl 5 <| mm_ldl 7 <| mm_ld (fun x y => x / y) <| mm_stl 9 <| mm_ldl 2 <| mm_ldl 9 <| mm_cas 47 2 C <| mm_stl 11 <| mm_ldl 11 <| mm_cst (.long 0) <| mm_cmp <| mm_ifc .ne 2 J <| mm_ldl 2 <| mm_go 3 J
  | 2 => mm_ldl 2 <| mm_ldl 11 <| mm_ld (fun x y => x / y) <| mm_ldl 9 <| mm_ll (fun x y => x * y) <| mm_go 3 J
  | 3 => mm_stl 2 <| mm_go 4 J
  | 4 => mm_inc 4 (.int 1) <| mm_go 1 J
  | 5 => mm_ldl 2 <| mm_rtl Q
  | _ => fun _ _ _ _ => False
def pp_X3_leastThatMakesWhole : Nat → Nat
  | 0 => 0
  | 1 => 5
  | 2 => 76
  | 3 => 83
  | 4 => 84
  | 5 => 90
  | _ => 0
/-- 39 HiddenSums$Reduced.at -/
def pb_X3_at (J : mm_J) (C : mm_C) (Q : mm_Q) : mm_J := fun t => match t with
  | 0 => mm_lda 0 <| mm_get [3, 0, 2] <| mm_ldi 1 <| mm_cst (.int 12) <| mm_ii (fun x y => x * y) <| mm_ldi 2 <| mm_ii (fun x y => x + y) <| mm_lld <| mm_rtl Q
  | _ => fun _ _ _ _ => False
def pp_X3_at : Nat → Nat
  | 0 => 0
  | _ => 0
/-- 40 HiddenSums$Reduced.isPivot -/
def pb_X3_isPivot (J : mm_J) (C : mm_C) (Q : mm_Q) : mm_J := fun t => match t with
  | 0 => mm_lda 0 <| mm_ldi 1 <| mm_ldi 1 <| mm_cav 39 3 3 C <| mm_cst (.long 0) <| mm_cmp <| mm_ifc .eq 1 J <| mm_cst (.int 1) <| mm_go 2 J
  | 1 => mm_cst (.int 0) <| mm_go 2 J
  | 2 => mm_rtz Q
  | _ => fun _ _ _ _ => False
def pp_X3_isPivot : Nat → Nat
  | 0 => 0
  | 1 => 15
  | 2 => 16
  | _ => 0
/-- 41 HiddenSums$Reduced.firstBehind -/
def pb_X3_firstBehind (J : mm_J) (C : mm_C) (Q : mm_Q) : mm_J := fun t => match t with
  | 0 => mm_lda 0 <| mm_ldi 1 <| mm_ldi 1 <| mm_cst (.int 1) <| mm_ii (fun x y => x + y) <| mm_cav 42 3 3 C <| mm_ret Q
  | _ => fun _ _ _ _ => False
def pp_X3_firstBehind : Nat → Nat
  | 0 => 0
  | _ => 0
/-- 42 HiddenSums$Reduced.firstOf -/
def pb_X3_firstOf (J : mm_J) (C : mm_C) (Q : mm_Q) : mm_J := fun t => match t with
  | 0 => mm_ldi 2 <| mm_sti 3 <| mm_go 1 J
  | 1 => mm_ldi 3 <| mm_cst (.int 12) <| mm_icm .ge 3 J <| mm_lda 0 <| mm_ldi 1 <| mm_ldi 3 <| mm_cav 39 3 3 C <| mm_cst (.long 0) <| mm_cmp <| mm_ifc .eq 2 J <| mm_ldi 3 <| mm_ret Q
  | 2 => mm_inc 3 (.int 1) <| mm_go 1 J
  | 3 => mm_cst (.int (-1)) <| mm_ret Q
  | _ => fun _ _ _ _ => False
def pp_X3_firstOf : Nat → Nat
  | 0 => 0
  | 1 => 2
  | 2 => 21
  | 3 => 27
  | _ => 0
/-- 43 HiddenSums$Reduced.clearAt -/
def pb_X3_clearAt (J : mm_J) (C : mm_C) (Q : mm_Q) : mm_J := fun t => match t with
  | 0 => mm_lda 0 <| mm_ldi 2 <| mm_ldi 1 <| mm_cav 39 3 3 C <| mm_stl 3 <| mm_lda 0 <| mm_ldi 1 <| mm_ldi 1 <| mm_cav 39 3 3 C <| mm_stl 5 <| mm_ldl 3 <| mm_cst (.long 0) <| mm_cmp <| mm_ifc .ne 1 J <| mm_rtv Q
  | 1 => mm_cst (.int 0) <| mm_sti 7 <| mm_go 2 J
  | 2 => mm_ldi 7 <| mm_cst (.int 12) <| mm_icm .ge 3 J <| mm_lda 0 <| mm_get [3, 0, 2] <| mm_ldi 2 <| mm_cst (.int 12) <| mm_ii (fun x y => x * y) <| mm_ldi 7 <| mm_ii (fun x y => x + y) <| mm_lda 0 <| mm_ldi 2 <| mm_ldi 7 <| mm_cav 39 3 3 C <| mm_ldl 5 <| mm_ll (fun x y => x * y) <| mm_lda 0 <| mm_ldi 1 <| mm_ldi 7 <| mm_cav 39 3 3 C <| mm_ldl 3 <| mm_ll (fun x y => x * y) <| mm_ll (fun x y => x - y) <| mm_lst <| mm_inc 7 (.int 1) <| mm_go 2 J
  | 3 => mm_lda 0 <| mm_ldi 2 <| mm_lda 0 <| mm_ldi 2 <| mm_cav 46 2 3 C <| mm_cav 45 3 3 C <| mm_rtv Q
  | _ => fun _ _ _ _ => False
def pp_X3_clearAt : Nat → Nat
  | 0 => 0
  | 1 => 22
  | 2 => 25
  | 3 => 70
  | _ => 0
/-- 44 HiddenSums$Reduced.settleNewRow -/
def pb_X3_settleNewRow (J : mm_J) (C : mm_C) (Q : mm_Q) : mm_J := fun t => match t with
  | 0 => mm_lda 0 <| mm_get [3, 0, 2] <| mm_cst (.int 144) <| mm_lda 0 <| mm_get [3, 0, 2] <| mm_ldi 1 <| mm_cst (.int 12) <| mm_ii (fun x y => x * y) <| mm_cst (.int 12) <| mm_cpl <| mm_lda 0 <| mm_ldi 1 <| mm_cav 46 2 3 C <| mm_stl 2 <| mm_lda 0 <| mm_ldi 1 <| mm_lda 0 <| mm_ldi 1 <| mm_ldi 1 <| mm_cav 39 3 3 C <| mm_cst (.long 0) <| mm_cmp <| mm_ifc .ge 1 J <| mm_ldl 2 <| mm_l1 (fun x => -x) <| mm_go 2 J
  | 1 => mm_ldl 2 <| mm_go 2 J
  | 2 => mm_cav 45 3 3 C <| mm_rtv Q
  | _ => fun _ _ _ _ => False
def pp_X3_settleNewRow : Nat → Nat
  | 0 => 0
  | 1 => 44
  | 2 => 45
  | _ => 0
/-- 45 HiddenSums$Reduced.divide -/
def pb_X3_divide (J : mm_J) (C : mm_C) (Q : mm_Q) : mm_J := fun t => match t with
  | 0 => mm_ldl 2 <| mm_cst (.long 0) <| mm_cmp <| mm_ifc .ne 1 J <| mm_rtv Q
  | 1 => mm_cst (.int 0) <| mm_sti 4 <| mm_go 2 J
  | 2 => mm_ldi 4 <| mm_cst (.int 12) <| mm_icm .ge 3 J <| mm_lda 0 <| mm_get [3, 0, 2] <| mm_ldi 1 <| mm_cst (.int 12) <| mm_ii (fun x y => x * y) <| mm_ldi 4 <| mm_ii (fun x y => x + y) <| mm_dup2 <| mm_lld <| mm_ldl 2 <| mm_ld (fun x y => x / y) <| mm_lst <| mm_inc 4 (.int 1) <| mm_go 2 J
  | 3 => mm_rtv Q
  | _ => fun _ _ _ _ => False
def pp_X3_divide : Nat → Nat
  | 0 => 0
  | 1 => 7
  | 2 => 10
  | 3 => 39
  | _ => 0
/-- 46 HiddenSums$Reduced.commonDivisorOf -/
def pb_X3_commonDivisorOf (J : mm_J) (C : mm_C) (Q : mm_Q) : mm_J := fun t => match t with
  | 0 => mm_cst (.long 0) <| mm_stl 2 <| mm_cst (.int 0) <| mm_sti 4 <| mm_go 1 J
  | 1 => mm_ldi 4 <| mm_cst (.int 12) <| mm_icm .ge 2 J <| mm_ldl 2 <| mm_lda 0 <| mm_ldi 1 <| mm_ldi 4 <| mm_cav 39 3 3 C <| mm_cas 47 2 C <| mm_stl 2 <| mm_inc 4 (.int 1) <| mm_go 1 J
  | 2 => mm_ldl 2 <| mm_rtl Q
  | _ => fun _ _ _ _ => False
def pp_X3_commonDivisorOf : Nat → Nat
  | 0 => 0
  | 1 => 5
  | 2 => 30
  | _ => 0
/-- 47 HiddenSums$Reduced.commonDivisor -/
def pb_X3_commonDivisor (J : mm_J) (C : mm_C) (Q : mm_Q) : mm_J := fun t => match t with
  | 0 => mm_ldl 0 <| mm_cst (.long 0) <| mm_cmp <| mm_ifc .ge 1 J <| mm_ldl 0 <| mm_l1 (fun x => -x) <| mm_go 2 J
  | 1 => mm_ldl 0 <| mm_go 2 J
  | 2 => mm_stl 4 <| mm_ldl 2 <| mm_cst (.long 0) <| mm_cmp <| mm_ifc .ge 3 J <| mm_ldl 2 <| mm_l1 (fun x => -x) <| mm_go 4 J
  | 3 => mm_ldl 2 <| mm_go 4 J
  | 4 => mm_stl 6 <| mm_cst (.int 0) <| mm_sti 8 <| mm_go 5 J
  | 5 => mm_ldi 8 <| mm_cst (.int 100) <| mm_icm .ge 6 J <| mm_ldl 6 <| mm_cst (.long 0) <| mm_cmp <| mm_ifc .eq 6 J <| mm_ldl 4 <| mm_ldl 6 <| mm_ld (fun x y => x - x / y * y) <| mm_stl 9 <| mm_ldl 6 <| mm_stl 4 <| mm_ldl 9 <| mm_stl 6 <| mm_inc 8 (.int 1) <| mm_go 5 J
  | 6 => mm_ldl 4 <| mm_rtl Q
  | _ => fun _ _ _ _ => False
def pp_X3_commonDivisor : Nat → Nat
  | 0 => 0
  | 1 => 11
  | 2 => 12
  | 3 => 25
  | 4 => 26
  | 5 => 31
  | 6 => 66
  | _ => 0
/-- 48 HiddenSums$Text.<init> -/
def pb_X4_init (J : mm_J) (C : mm_C) (Q : mm_Q) : mm_J := fun t => match t with
  | 0 => mm_lda 0 <| mm_obi <| mm_lda 0 <| mm_cst (.int 60) <| mm_nar .int (2, 120) <| mm_put [4, 0, 2] <| mm_lda 0 <| mm_cst (.int 60) <| mm_nar .int (2, 120) <| mm_put [4, 1, 2] <| mm_rtv Q
  | _ => fun _ _ _ _ => False
def pp_X4_init : Nat → Nat
  | 0 => 0
  | _ => 0
/-- 49 HiddenSums$Text.empty -/
def pb_X4_empty (J : mm_J) (C : mm_C) (Q : mm_Q) : mm_J := fun t => match t with
  | 0 => mm_lda 0 <| mm_cst (.int 0) <| mm_put [4, 2, 0] <| mm_lda 0 <| mm_cst (.int 0) <| mm_put [4, 3, 0] <| mm_rtv Q
  | _ => fun _ _ _ _ => False
def pp_X4_empty : Nat → Nat
  | 0 => 0
  | _ => 0
/-- 50 HiddenSums$Text.append -/
def pb_X4_append (J : mm_J) (C : mm_C) (Q : mm_Q) : mm_J := fun t => match t with
  | 0 => mm_lda 0 <| mm_get [4, 2, 0] <| mm_cst (.int 60) <| mm_icm .lt 1 J <| mm_rtv Q
  | 1 => mm_lda 0 <| mm_get [4, 0, 2] <| mm_lda 0 <| mm_get [4, 2, 0] <| mm_ldi 1 <| mm_ast .int (fun x => x) <| mm_lda 0 <| mm_get [4, 1, 2] <| mm_lda 0 <| mm_get [4, 2, 0] <| mm_ldi 2 <| mm_ast .int (fun x => x) <| mm_lda 0 <| mm_dup <| mm_get [4, 2, 0] <| mm_cst (.int 1) <| mm_ii (fun x y => x + y) <| mm_put [4, 2, 0] <| mm_ldi 1 <| mm_cst (.int 3) <| mm_icm .ne 2 J <| mm_lda 0 <| mm_dup <| mm_get [4, 3, 0] <| mm_cst (.int 1) <| mm_ldi 2 <| mm_ii (fun x y => x <<< (y &&& 31)) <| mm_ii (fun x y => x ||| y) <| mm_put [4, 3, 0] <| mm_go 2 J
  | 2 => mm_rtv Q
  | _ => fun _ _ _ _ => False
def pp_X4_append : Nat → Nat
  | 0 => 0
  | 1 => 10
  | 2 => 57
  | _ => 0
/-- 51 HiddenSums$Text.copyFrom -/
def pb_X4_copyFrom (J : mm_J) (C : mm_C) (Q : mm_Q) : mm_J := fun t => match t with
  | 0 => mm_lda 1 <| mm_get [4, 0, 2] <| mm_cst (.int 0) <| mm_lda 0 <| mm_get [4, 0, 2] <| mm_cst (.int 0) <| mm_lda 1 <| mm_get [4, 2, 0] <| mm_cpi <| mm_lda 1 <| mm_get [4, 1, 2] <| mm_cst (.int 0) <| mm_lda 0 <| mm_get [4, 1, 2] <| mm_cst (.int 0) <| mm_lda 1 <| mm_get [4, 2, 0] <| mm_cpi <| mm_lda 0 <| mm_lda 1 <| mm_get [4, 2, 0] <| mm_put [4, 2, 0] <| mm_lda 0 <| mm_lda 1 <| mm_get [4, 3, 0] <| mm_put [4, 3, 0] <| mm_rtv Q
  | _ => fun _ _ _ _ => False
def pp_X4_copyFrom : Nat → Nat
  | 0 => 0
  | _ => 0
/-- 52 HiddenSums$User.<init> -/
def pb_X5_init (J : mm_J) (C : mm_C) (Q : mm_Q) : mm_J := fun t => match t with
  | 0 => mm_lda 0 <| mm_obi <| mm_lda 0 <| mm_new 4 4 (15, 880) <| mm_dup <| mm_can 48 1 2 120 (15, 880) C <| mm_put [5, 0, 2] <| mm_lda 0 <| mm_new 4 4 (15, 880) <| mm_dup <| mm_can 48 1 2 120 (15, 880) C <| mm_put [5, 1, 2] <| mm_lda 0 <| mm_cst (.int 4) <| mm_nar (.object "HiddenSums$Reduced") (15, 880) <| mm_put [5, 2, 2] <| mm_cst (.int 0) <| mm_sti 1 <| mm_go 1 J
  | 1 => mm_ldi 1 <| mm_cst (.int 4) <| mm_icm .ge 2 J <| mm_lda 0 <| mm_get [5, 2, 2] <| mm_ldi 1 <| mm_new 3 1 (15, 880) <| mm_dup <| mm_can 30 1 1 156 (15, 880) C <| mm_rst "HiddenSums$Reduced" 3 <| mm_inc 1 (.int 1) <| mm_go 1 J
  | 2 => mm_rtv Q
  | _ => fun _ _ _ _ => False
def pp_X5_init : Nat → Nat
  | 0 => 0
  | 1 => 36
  | 2 => 60
  | _ => 0
/-- 53 HiddenSums$User.begin -/
def pb_X5_begin (J : mm_J) (C : mm_C) (Q : mm_Q) : mm_J := fun t => match t with
  | 0 => mm_lda 0 <| mm_get [5, 0, 2] <| mm_cav 49 1 4 C <| mm_lda 0 <| mm_get [5, 0, 2] <| mm_cst (.int 5) <| mm_cst (.int 0) <| mm_cav 50 3 4 C <| mm_lda 0 <| mm_cst (.int 0) <| mm_put [5, 3, 0] <| mm_lda 0 <| mm_cst (.int 0) <| mm_put [5, 4, 3] <| mm_cst (.int 0) <| mm_sti 1 <| mm_go 1 J
  | 1 => mm_ldi 1 <| mm_cst (.int 4) <| mm_icm .ge 2 J <| mm_lda 0 <| mm_get [5, 2, 2] <| mm_ldi 1 <| mm_rld "HiddenSums$Reduced" <| mm_cav 31 1 3 C <| mm_inc 1 (.int 1) <| mm_go 1 J
  | 2 => mm_rtv Q
  | _ => fun _ _ _ _ => False
def pp_X5_begin : Nat → Nat
  | 0 => 0
  | 1 => 28
  | 2 => 48
  | _ => 0
/-- 54 HiddenSums$User.hasClosed -/
def pb_X5_hasClosed (J : mm_J) (C : mm_C) (Q : mm_Q) : mm_J := fun t => match t with
  | 0 => mm_lda 0 <| mm_get [5, 3, 0] <| mm_ldi 1 <| mm_ii (fun x y => x &&& y) <| mm_ifc .eq 1 J <| mm_cst (.int 1) <| mm_go 2 J
  | 1 => mm_cst (.int 0) <| mm_go 2 J
  | 2 => mm_rtz Q
  | _ => fun _ _ _ _ => False
def pp_X5_hasClosed : Nat → Nat
  | 0 => 0
  | 1 => 13
  | 2 => 14
  | _ => 0
/-- 55 HiddenSums$User.startCursor -/
def pb_X5_startCursor (J : mm_J) (C : mm_C) (Q : mm_Q) : mm_J := fun t => match t with
  | 0 => mm_lda 0 <| mm_get [5, 1, 2] <| mm_lda 1 <| mm_cav 51 2 4 C <| mm_lda 0 <| mm_cst (.int (-1)) <| mm_put [5, 5, 0] <| mm_lda 0 <| mm_cst (.int 1) <| mm_put [5, 4, 3] <| mm_rtv Q
  | _ => fun _ _ _ _ => False
def pp_X5_startCursor : Nat → Nat
  | 0 => 0
  | _ => 0
/-- 56 HiddenSums.<init> -/
def pb_X6_init (J : mm_J) (C : mm_C) (Q : mm_Q) : mm_J := fun t => match t with
  | 0 => mm_lda 0 <| mm_obi <| mm_lda 0 <| mm_cst (.int 48) <| mm_nar .int (80, 5135) <| mm_put [6, 0, 2] <| mm_lda 0 <| mm_cst (.int 4) <| mm_nar (.object "HiddenSums$User") (80, 5135) <| mm_put [6, 2, 2] <| mm_lda 0 <| mm_cst (.int 300) <| mm_nar .int (80, 5135) <| mm_put [6, 4, 2] <| mm_lda 0 <| mm_cst (.int (-1)) <| mm_put [6, 6, 0] <| mm_lda 0 <| mm_cst (.int 12) <| mm_nar .int (80, 5135) <| mm_put [6, 7, 2] <| mm_lda 0 <| mm_new 0 2 (80, 5135) <| mm_dup <| mm_can 0 1 1 750 (80, 5135) C <| mm_put [6, 10, 2] <| mm_lda 0 <| mm_new 1 11 (80, 5135) <| mm_dup <| mm_can 3 1 4 184 (80, 5135) C <| mm_put [6, 11, 2] <| mm_lda 0 <| mm_new 2 3 (80, 5135) <| mm_dup <| mm_can 22 1 2 120 (80, 5135) C <| mm_put [6, 12, 2] <| mm_lda 0 <| mm_new 3 1 (80, 5135) <| mm_dup <| mm_can 30 1 1 156 (80, 5135) C <| mm_put [6, 13, 2] <| mm_cst (.int 0) <| mm_sti 1 <| mm_go 1 J
  | 1 => mm_ldi 1 <| mm_cst (.int 4) <| mm_icm .ge 2 J <| mm_lda 0 <| mm_get [6, 2, 2] <| mm_ldi 1 <| mm_new 5 6 (80, 5135) <| mm_dup <| mm_can 52 1 15 880 (80, 5135) C <| mm_rst "HiddenSums$User" 5 <| mm_inc 1 (.int 1) <| mm_go 1 J
  | 2 => mm_rtv Q
  | _ => fun _ _ _ _ => False
def pp_X6_init : Nat → Nat
  | 0 => 0
  | 1 => 88
  | 2 => 112
  | _ => 0
/-- 57 HiddenSums.object -/
def pb_X6_object (J : mm_J) (C : mm_C) (Q : mm_Q) : mm_J := fun t => match t with
  | 0 => mm_lda 0 <| mm_get [6, 9, 3] <| mm_ifc .eq 1 J <| mm_cst (.int (-5)) <| mm_ret Q
  | 1 => mm_lda 0 <| mm_get [6, 1, 0] <| mm_cst (.int 12) <| mm_icm .lt 2 J <| mm_cst (.int (-4)) <| mm_ret Q
  | 2 => mm_cst (.int 0) <| mm_sti 1 <| mm_go 3 J
  | 3 => mm_ldi 1 <| mm_cst (.int 4) <| mm_icm .ge 4 J <| mm_lda 0 <| mm_get [6, 0, 2] <| mm_lda 0 <| mm_get [6, 1, 0] <| mm_cst (.int 4) <| mm_ii (fun x y => x * y) <| mm_ldi 1 <| mm_ii (fun x y => x + y) <| mm_cst (.int 0) <| mm_ast .int (fun x => x) <| mm_inc 1 (.int 1) <| mm_go 3 J
  | 4 => mm_lda 0 <| mm_dup <| mm_get [6, 1, 0] <| mm_cst (.int 1) <| mm_ii (fun x y => x + y) <| mm_put [6, 1, 0] <| mm_lda 0 <| mm_get [6, 1, 0] <| mm_cst (.int 1) <| mm_ii (fun x y => x - y) <| mm_ret Q
  | _ => fun _ _ _ _ => False
def pp_X6_object : Nat → Nat
  | 0 => 0
  | 1 => 10
  | 2 => 22
  | 3 => 24
  | 4 => 49
  | _ => 0
/-- 58 HiddenSums.set -/
def pb_X6_set (J : mm_J) (C : mm_C) (Q : mm_Q) : mm_J := fun t => match t with
  | 0 => mm_lda 0 <| mm_ldi 1 <| mm_cav 79 2 6 C <| mm_ifc .eq 1 J <| mm_ldi 2 <| mm_cas 81 1 C <| mm_ifc .ne 2 J <| mm_go 1 J
  | 1 => mm_cst (.int (-1)) <| mm_ret Q
  | 2 => mm_ldi 3 <| mm_cst (.int (-1000)) <| mm_icm .lt 3 J <| mm_ldi 3 <| mm_cst (.int 1000) <| mm_icm .le 4 J <| mm_go 3 J
  | 3 => mm_cst (.int (-2)) <| mm_ret Q
  | 4 => mm_lda 0 <| mm_get [6, 9, 3] <| mm_ifc .eq 5 J <| mm_cst (.int (-5)) <| mm_ret Q
  | 5 => mm_lda 0 <| mm_get [6, 0, 2] <| mm_ldi 1 <| mm_cst (.int 4) <| mm_ii (fun x y => x * y) <| mm_ldi 2 <| mm_ii (fun x y => x + y) <| mm_ldi 3 <| mm_ast .int (fun x => x) <| mm_cst (.int 1) <| mm_ret Q
  | _ => fun _ _ _ _ => False
def pp_X6_set : Nat → Nat
  | 0 => 0
  | 1 => 15
  | 2 => 17
  | 3 => 31
  | 4 => 34
  | 5 => 44
  | _ => 0
/-- 59 HiddenSums.user -/
def pb_X6_user (J : mm_J) (C : mm_C) (Q : mm_Q) : mm_J := fun t => match t with
  | 0 => mm_lda 0 <| mm_get [6, 3, 0] <| mm_cst (.int 4) <| mm_icm .lt 1 J <| mm_cst (.int (-4)) <| mm_ret Q
  | 1 => mm_lda 0 <| mm_get [6, 2, 2] <| mm_lda 0 <| mm_get [6, 3, 0] <| mm_rld "HiddenSums$User" <| mm_cav 53 1 5 C <| mm_lda 0 <| mm_dup <| mm_get [6, 3, 0] <| mm_cst (.int 1) <| mm_ii (fun x y => x + y) <| mm_put [6, 3, 0] <| mm_lda 0 <| mm_get [6, 3, 0] <| mm_cst (.int 1) <| mm_ii (fun x y => x - y) <| mm_ret Q
  | _ => fun _ _ _ _ => False
def pp_X6_user : Nat → Nat
  | 0 => 0
  | 1 => 11
  | _ => 0
/-- 60 HiddenSums.type -/
def pb_X6_type (J : mm_J) (C : mm_C) (Q : mm_Q) : mm_J := fun t => match t with
  | 0 => mm_ldi 3 <| mm_ifc .lt 1 J <| mm_ldi 3 <| mm_cst (.int 8) <| mm_icm .le 2 J <| mm_go 1 J
  | 1 => mm_cst (.int (-2)) <| mm_ret Q
  | 2 => mm_ldi 3 <| mm_ifc .ne 3 J <| mm_lda 0 <| mm_cst (.int 0) <| mm_put [6, 5, 0] <| mm_cst (.int 0) <| mm_ret Q
  | 3 => mm_lda 0 <| mm_get [6, 5, 0] <| mm_ldi 3 <| mm_ii (fun x y => x + y) <| mm_cst (.int 300) <| mm_icm .le 4 J <| mm_cst (.int (-4)) <| mm_ret Q
  | 4 => mm_ldi 3 <| mm_cst (.int 1) <| mm_ii (fun x y => x - y) <| mm_sti 4 <| mm_go 5 J
  | 5 => mm_ldi 4 <| mm_ifc .lt 6 J <| mm_lda 0 <| mm_get [6, 4, 2] <| mm_lda 0 <| mm_get [6, 5, 0] <| mm_ldl 1 <| mm_cst (.int 8) <| mm_ldi 4 <| mm_ii (fun x y => x * y) <| mm_ls (fun x y => (x.toUInt64 >>> (y.toInt64.toUInt64 &&& Int64.toUInt64 63)).toInt64) <| mm_l2i <| mm_cst (.int 255) <| mm_ii (fun x y => x &&& y) <| mm_ast .int (fun x => x) <| mm_lda 0 <| mm_dup <| mm_get [6, 5, 0] <| mm_cst (.int 1) <| mm_ii (fun x y => x + y) <| mm_put [6, 5, 0] <| mm_inc 4 (.int (-1)) <| mm_go 5 J
  | 6 => mm_lda 0 <| mm_get [6, 5, 0] <| mm_ret Q
  | _ => fun _ _ _ _ => False
def pp_X6_type : Nat → Nat
  | 0 => 0
  | 1 => 10
  | 2 => 13
  | 3 => 24
  | 4 => 39
  | 5 => 44
  | 6 => 86
  | _ => 0
/-- 61 HiddenSums.rule -/
def pb_X6_rule (J : mm_J) (C : mm_C) (Q : mm_Q) : mm_J := fun t => match t with
  | 0 => mm_lda 0 <| mm_ldi 1 <| mm_cav 80 2 6 C <| mm_ifc .ne 1 J <| mm_cst (.int (-1)) <| mm_ret Q
  | 1 => mm_lda 0 <| mm_cav 83 1 6 C <| mm_sti 2 <| mm_ldi 2 <| mm_ifc .eq 2 J <| mm_cst (.int (-10)) <| mm_ldi 2 <| mm_ii (fun x y => x - y) <| mm_ret Q
  | 2 => mm_lda 0 <| mm_get [6, 2, 2] <| mm_ldi 1 <| mm_rld "HiddenSums$User" <| mm_get [5, 0, 2] <| mm_lda 0 <| mm_get [6, 11, 2] <| mm_get [1, 0, 2] <| mm_cav 51 2 4 C <| mm_lda 0 <| mm_lda 0 <| mm_get [6, 2, 2] <| mm_ldi 1 <| mm_rld "HiddenSums$User" <| mm_cst (.int 1) <| mm_cav 87 3 6 C <| mm_ret Q
  | _ => fun _ _ _ _ => False
def pp_X6_rule : Nat → Nat
  | 0 => 0
  | 1 => 10
  | 2 => 24
  | _ => 0
/-- 62 HiddenSums.place -/
def pb_X6_place (J : mm_J) (C : mm_C) (Q : mm_Q) : mm_J := fun t => match t with
  | 0 => mm_lda 0 <| mm_get [6, 6, 0] <| mm_ret Q
  | _ => fun _ _ _ _ => False
def pp_X6_place : Nat → Nat
  | 0 => 0
  | _ => 0
/-- 63 HiddenSums.close -/
def pb_X6_close (J : mm_J) (C : mm_C) (Q : mm_Q) : mm_J := fun t => match t with
  | 0 => mm_lda 0 <| mm_ldi 1 <| mm_cav 80 2 6 C <| mm_ifc .ne 1 J <| mm_cst (.int (-1)) <| mm_ret Q
  | 1 => mm_ldi 2 <| mm_ifc .lt 2 J <| mm_ldi 2 <| mm_cst (.int 16) <| mm_icm .lt 3 J <| mm_go 2 J
  | 2 => mm_cst (.int (-2)) <| mm_ret Q
  | 3 => mm_lda 0 <| mm_get [6, 2, 2] <| mm_ldi 1 <| mm_rld "HiddenSums$User" <| mm_get [5, 3, 0] <| mm_sti 3 <| mm_lda 0 <| mm_get [6, 2, 2] <| mm_ldi 1 <| mm_rld "HiddenSums$User" <| mm_ldi 2 <| mm_put [5, 3, 0] <| mm_ldi 3 <| mm_ret Q
  | _ => fun _ _ _ _ => False
def pp_X6_close : Nat → Nat
  | 0 => 0
  | 1 => 10
  | 2 => 20
  | 3 => 23
  | _ => 0
/-- 64 HiddenSums.seen -/
def pb_X6_seen (J : mm_J) (C : mm_C) (Q : mm_Q) : mm_J := fun t => match t with
  | 0 => mm_lda 0 <| mm_ldi 1 <| mm_cav 80 2 6 C <| mm_ifc .ne 1 J <| mm_cst (.int (-1)) <| mm_ret Q
  | 1 => mm_ldi 2 <| mm_tsw J 0 [5, 2, 3, 4]
  | 2 => mm_lda 0 <| mm_lda 0 <| mm_get [6, 2, 2] <| mm_ldi 1 <| mm_rld "HiddenSums$User" <| mm_cst (.int 1) <| mm_cav 87 3 6 C <| mm_ret Q
  | 3 => mm_lda 0 <| mm_get [6, 1, 0] <| mm_lda 0 <| mm_lda 0 <| mm_get [6, 2, 2] <| mm_ldi 1 <| mm_rld "HiddenSums$User" <| mm_cst (.int 1) <| mm_cav 87 3 6 C <| mm_ii (fun x y => x - y) <| mm_ret Q
  | 4 => mm_lda 0 <| mm_lda 0 <| mm_get [6, 2, 2] <| mm_ldi 1 <| mm_rld "HiddenSums$User" <| mm_cst (.int 2) <| mm_cav 87 3 6 C <| mm_ret Q
  | 5 => mm_cst (.int (-2)) <| mm_ret Q
  | _ => fun _ _ _ _ => False
def pp_X6_seen : Nat → Nat
  | 0 => 0
  | 1 => 10
  | 2 => 36
  | 3 => 48
  | 4 => 65
  | 5 => 77
  | _ => 0
/-- 65 HiddenSums.ask -/
def pb_X6_ask (J : mm_J) (C : mm_C) (Q : mm_Q) : mm_J := fun t => match t with
  | 0 => mm_lda 0 <| mm_ldi 1 <| mm_cav 80 2 6 C <| mm_ifc .ne 1 J <| mm_cst (.int (-1)) <| mm_ret Q
  | 1 => mm_lda 0 <| mm_get [6, 10, 2] <| mm_cav 1 1 0 C <| mm_ifc .eq 2 J <| mm_cst (.int (-4)) <| mm_ret Q
  | 2 => mm_lda 0 <| mm_ldi 1 <| mm_cst (.int 0) <| mm_cav 84 3 6 C <| mm_sti 2 <| mm_ldi 2 <| mm_ifc .eq 3 J <| mm_ldi 2 <| mm_ret Q
  | 3 => mm_lda 0 <| mm_cst (.int 0) <| mm_put [6, 8, 0] <| mm_cst (.int 0) <| mm_sti 3 <| mm_go 4 J
  | 4 => mm_ldi 3 <| mm_lda 0 <| mm_get [6, 1, 0] <| mm_icm .ge 6 J <| mm_lda 0 <| mm_lda 0 <| mm_get [6, 2, 2] <| mm_ldi 1 <| mm_rld "HiddenSums$User" <| mm_lda 0 <| mm_get [6, 11, 2] <| mm_get [1, 0, 2] <| mm_ldi 3 <| mm_cav 86 4 6 C <| mm_ifc .eq 5 J <| mm_lda 0 <| mm_get [6, 7, 2] <| mm_lda 0 <| mm_get [6, 8, 0] <| mm_ldi 3 <| mm_ast .int (fun x => x) <| mm_lda 0 <| mm_dup <| mm_get [6, 8, 0] <| mm_cst (.int 1) <| mm_ii (fun x y => x + y) <| mm_put [6, 8, 0] <| mm_go 5 J
  | 5 => mm_inc 3 (.int 1) <| mm_go 4 J
  | 6 => mm_lda 0 <| mm_get [6, 8, 0] <| mm_ret Q
  | _ => fun _ _ _ _ => False
def pp_X6_ask : Nat → Nat
  | 0 => 0
  | 1 => 10
  | 2 => 23
  | 3 => 36
  | 4 => 43
  | 5 => 92
  | 6 => 98
  | _ => 0
/-- 66 HiddenSums.found -/
def pb_X6_found (J : mm_J) (C : mm_C) (Q : mm_Q) : mm_J := fun t => match t with
  | 0 => mm_ldi 1 <| mm_ifc .lt 1 J <| mm_ldi 1 <| mm_lda 0 <| mm_get [6, 8, 0] <| mm_icm .lt 2 J <| mm_go 1 J
  | 1 => mm_cst (.int (-1)) <| mm_ret Q
  | 2 => mm_lda 0 <| mm_get [6, 7, 2] <| mm_ldi 1 <| mm_ald .int <| mm_ret Q
  | _ => fun _ _ _ _ => False
def pp_X6_found : Nat → Nat
  | 0 => 0
  | 1 => 12
  | 2 => 14
  | _ => 0
/-- 69 HiddenSums.cell -/
def pb_X6_cell (J : mm_J) (C : mm_C) (Q : mm_Q) : mm_J := fun t => match t with
  | 0 => mm_lda 0 <| mm_ldi 1 <| mm_cav 80 2 6 C <| mm_ifc .eq 1 J <| mm_ldi 2 <| mm_cas 81 1 C <| mm_ifc .ne 2 J <| mm_go 1 J
  | 1 => mm_cst (.int (-1)) <| mm_ret Q
  | 2 => mm_ldi 4 <| mm_ldi 3 <| mm_icm .ge 3 J <| mm_cst (.int (-2)) <| mm_ret Q
  | 3 => mm_lda 0 <| mm_get [6, 10, 2] <| mm_cav 1 1 0 C <| mm_ifc .eq 4 J <| mm_cst (.int (-4)) <| mm_ret Q
  | 4 => mm_lda 0 <| mm_get [6, 2, 2] <| mm_ldi 1 <| mm_rld "HiddenSums$User" <| mm_cst (.int 1) <| mm_ldi 2 <| mm_ii (fun x y => x <<< (y &&& 31)) <| mm_cav 54 2 5 C <| mm_ifc .eq 5 J <| mm_lda 0 <| mm_get [6, 10, 2] <| mm_ldi 1 <| mm_cst (.int 3) <| mm_ldi 2 <| mm_ldi 3 <| mm_cst (.int 2) <| mm_cav 2 6 0 C <| mm_cst (.int (-6)) <| mm_ret Q
  | 5 => mm_lda 0 <| mm_get [6, 10, 2] <| mm_ldi 1 <| mm_cst (.int 3) <| mm_ldi 2 <| mm_ldi 3 <| mm_cst (.int 0) <| mm_cav 2 6 0 C <| mm_lda 0 <| mm_lda 0 <| mm_get [6, 2, 2] <| mm_ldi 1 <| mm_rld "HiddenSums$User" <| mm_ldi 2 <| mm_ldi 3 <| mm_ldi 4 <| mm_cav 88 5 6 C <| mm_ret Q
  | _ => fun _ _ _ _ => False
def pp_X6_cell : Nat → Nat
  | 0 => 0
  | 1 => 15
  | 2 => 17
  | 3 => 26
  | 4 => 39
  | 5 => 69
  | _ => 0
/-- 70 HiddenSums.cursor -/
def pb_X6_cursor (J : mm_J) (C : mm_C) (Q : mm_Q) : mm_J := fun t => match t with
  | 0 => mm_lda 0 <| mm_ldi 1 <| mm_cav 80 2 6 C <| mm_ifc .ne 1 J <| mm_cst (.int (-1)) <| mm_ret Q
  | 1 => mm_lda 0 <| mm_get [6, 10, 2] <| mm_cav 1 1 0 C <| mm_ifc .eq 2 J <| mm_cst (.int (-4)) <| mm_ret Q
  | 2 => mm_lda 0 <| mm_ldi 1 <| mm_cst (.int 4) <| mm_cav 84 3 6 C <| mm_sti 2 <| mm_ldi 2 <| mm_ifc .eq 3 J <| mm_ldi 2 <| mm_ret Q
  | 3 => mm_lda 0 <| mm_get [6, 2, 2] <| mm_ldi 1 <| mm_rld "HiddenSums$User" <| mm_lda 0 <| mm_get [6, 11, 2] <| mm_get [1, 0, 2] <| mm_cav 55 2 5 C <| mm_cst (.int 1) <| mm_ret Q
  | _ => fun _ _ _ _ => False
def pp_X6_cursor : Nat → Nat
  | 0 => 0
  | 1 => 10
  | 2 => 23
  | 3 => 36
  | _ => 0
/-- 71 HiddenSums.step -/
def pb_X6_step (J : mm_J) (C : mm_C) (Q : mm_Q) : mm_J := fun t => match t with
  | 0 => mm_lda 0 <| mm_ldi 1 <| mm_cav 80 2 6 C <| mm_ifc .ne 1 J <| mm_cst (.int (-1)) <| mm_ret Q
  | 1 => mm_lda 0 <| mm_get [6, 2, 2] <| mm_ldi 1 <| mm_rld "HiddenSums$User" <| mm_sta 2 <| mm_lda 2 <| mm_get [5, 4, 3] <| mm_ifc .ne 2 J <| mm_cst (.int (-5)) <| mm_ret Q
  | 2 => mm_lda 0 <| mm_get [6, 10, 2] <| mm_cav 1 1 0 C <| mm_ifc .eq 3 J <| mm_cst (.int (-4)) <| mm_ret Q
  | 3 => mm_lda 2 <| mm_lda 2 <| mm_get [5, 1, 2] <| mm_get [4, 3, 0] <| mm_cav 54 2 5 C <| mm_ifc .eq 4 J <| mm_lda 0 <| mm_get [6, 10, 2] <| mm_ldi 1 <| mm_cst (.int 5) <| mm_cst (.int 0) <| mm_cst (.int 0) <| mm_cst (.int 2) <| mm_cav 2 6 0 C <| mm_cst (.int (-6)) <| mm_ret Q
  | 4 => mm_lda 0 <| mm_get [6, 10, 2] <| mm_ldi 1 <| mm_cst (.int 5) <| mm_cst (.int 0) <| mm_cst (.int 0) <| mm_cst (.int 0) <| mm_cav 2 6 0 C <| mm_lda 0 <| mm_lda 2 <| mm_cav 89 2 6 C <| mm_ret Q
  | _ => fun _ _ _ _ => False
def pp_X6_step : Nat → Nat
  | 0 => 0
  | 1 => 10
  | 2 => 27
  | 3 => 40
  | 4 => 69
  | _ => 0
/-- 72 HiddenSums.solved -/
def pb_X6_solved (J : mm_J) (C : mm_C) (Q : mm_Q) : mm_J := fun t => match t with
  | 0 => mm_lda 0 <| mm_ldi 1 <| mm_cav 80 2 6 C <| mm_ifc .eq 1 J <| mm_ldi 2 <| mm_cas 81 1 C <| mm_ifc .eq 1 J <| mm_lda 0 <| mm_ldi 3 <| mm_cav 79 2 6 C <| mm_ifc .ne 2 J <| mm_go 1 J
  | 1 => mm_cst (.int (-1)) <| mm_ret Q
  | 2 => mm_lda 0 <| mm_get [6, 2, 2] <| mm_ldi 1 <| mm_rld "HiddenSums$User" <| mm_get [5, 2, 2] <| mm_ldi 2 <| mm_rld "HiddenSums$Reduced" <| mm_ldi 3 <| mm_cav 34 2 3 C <| mm_ifc .eq 3 J <| mm_cst (.int 1) <| mm_go 4 J
  | 3 => mm_cst (.int 0) <| mm_go 4 J
  | 4 => mm_ret Q
  | _ => fun _ _ _ _ => False
def pp_X6_solved : Nat → Nat
  | 0 => 0
  | 1 => 23
  | 2 => 25
  | 3 => 47
  | 4 => 48
  | _ => 0
/-- 73 HiddenSums.would -/
def pb_X6_would (J : mm_J) (C : mm_C) (Q : mm_Q) : mm_J := fun t => match t with
  | 0 => mm_lda 0 <| mm_ldi 1 <| mm_cav 80 2 6 C <| mm_ifc .eq 1 J <| mm_ldi 2 <| mm_cas 81 1 C <| mm_ifc .eq 1 J <| mm_lda 0 <| mm_ldi 3 <| mm_cav 79 2 6 C <| mm_ifc .ne 2 J <| mm_go 1 J
  | 1 => mm_cst (.int (-1)) <| mm_ret Q
  | 2 => mm_lda 0 <| mm_ldi 4 <| mm_cav 82 2 6 C <| mm_ifc .ne 3 J <| mm_cst (.int (-2)) <| mm_ret Q
  | 3 => mm_lda 0 <| mm_lda 0 <| mm_get [6, 2, 2] <| mm_ldi 1 <| mm_rld "HiddenSums$User" <| mm_ldi 2 <| mm_ldi 4 <| mm_cav 92 4 6 C <| mm_lda 0 <| mm_get [6, 13, 2] <| mm_ldi 3 <| mm_cav 34 2 3 C <| mm_ifc .eq 4 J <| mm_cst (.int 1) <| mm_go 5 J
  | 4 => mm_cst (.int 0) <| mm_go 5 J
  | 5 => mm_ret Q
  | _ => fun _ _ _ _ => False
def pp_X6_would : Nat → Nat
  | 0 => 0
  | 1 => 23
  | 2 => 25
  | 3 => 37
  | 4 => 65
  | 5 => 66
  | _ => 0
/-- 74 HiddenSums.world -/
def pb_X6_world (J : mm_J) (C : mm_C) (Q : mm_Q) : mm_J := fun t => match t with
  | 0 => mm_lda 0 <| mm_ldi 1 <| mm_cav 80 2 6 C <| mm_ifc .eq 1 J <| mm_ldi 2 <| mm_cas 81 1 C <| mm_ifc .eq 1 J <| mm_lda 0 <| mm_ldi 3 <| mm_cav 79 2 6 C <| mm_ifc .eq 1 J <| mm_lda 0 <| mm_ldi 4 <| mm_cav 79 2 6 C <| mm_ifc .ne 2 J <| mm_go 1 J
  | 1 => mm_cst (.long (-1)) <| mm_rtl Q
  | 2 => mm_lda 0 <| mm_get [6, 2, 2] <| mm_ldi 1 <| mm_rld "HiddenSums$User" <| mm_get [5, 2, 2] <| mm_ldi 2 <| mm_rld "HiddenSums$Reduced" <| mm_sta 5 <| mm_lda 5 <| mm_ldi 3 <| mm_cav 34 2 3 C <| mm_ifc .eq 3 J <| mm_cst (.long (-5)) <| mm_rtl Q
  | 3 => mm_lda 5 <| mm_ldi 3 <| mm_ldi 4 <| mm_cav 37 3 3 C <| mm_rtl Q
  | _ => fun _ _ _ _ => False
def pp_X6_world : Nat → Nat
  | 0 => 0
  | 1 => 32
  | 2 => 36
  | 3 => 62
  | _ => 0
/-- 75 HiddenSums.rows -/
def pb_X6_rows (J : mm_J) (C : mm_C) (Q : mm_Q) : mm_J := fun t => match t with
  | 0 => mm_lda 0 <| mm_ldi 1 <| mm_cav 80 2 6 C <| mm_ifc .eq 1 J <| mm_ldi 2 <| mm_cas 81 1 C <| mm_ifc .ne 2 J <| mm_go 1 J
  | 1 => mm_cst (.int (-1)) <| mm_ret Q
  | 2 => mm_lda 0 <| mm_get [6, 2, 2] <| mm_ldi 1 <| mm_rld "HiddenSums$User" <| mm_get [5, 2, 2] <| mm_ldi 2 <| mm_rld "HiddenSums$Reduced" <| mm_cav 33 1 3 C <| mm_ret Q
  | _ => fun _ _ _ _ => False
def pp_X6_rows : Nat → Nat
  | 0 => 0
  | 1 => 15
  | 2 => 17
  | _ => 0
/-- 76 HiddenSums.audit -/
def pb_X6_audit (J : mm_J) (C : mm_C) (Q : mm_Q) : mm_J := fun t => match t with
  | 0 => mm_ldi 1 <| mm_ifc .lt 1 J <| mm_ldi 1 <| mm_lda 0 <| mm_get [6, 10, 2] <| mm_get [0, 1, 0] <| mm_icm .lt 2 J <| mm_go 1 J
  | 1 => mm_cst (.int (-1)) <| mm_ret Q
  | 2 => mm_ldi 2 <| mm_ifc .lt 3 J <| mm_ldi 2 <| mm_cst (.int 5) <| mm_icm .lt 4 J <| mm_go 3 J
  | 3 => mm_cst (.int (-2)) <| mm_ret Q
  | 4 => mm_lda 0 <| mm_get [6, 10, 2] <| mm_get [0, 0, 2] <| mm_ldi 1 <| mm_cst (.int 5) <| mm_ii (fun x y => x * y) <| mm_ldi 2 <| mm_ii (fun x y => x + y) <| mm_ald .int <| mm_ret Q
  | _ => fun _ _ _ _ => False
def pp_X6_audit : Nat → Nat
  | 0 => 0
  | 1 => 15
  | 2 => 17
  | 3 => 26
  | 4 => 29
  | _ => 0
/-- 77 HiddenSums.told -/
def pb_X6_told (J : mm_J) (C : mm_C) (Q : mm_Q) : mm_J := fun t => match t with
  | 0 => mm_ldi 1 <| mm_tsw J 0 [8, 1, 2, 3, 4, 5]
  | 1 => mm_lda 0 <| mm_get [6, 1, 0] <| mm_ret Q
  | 2 => mm_lda 0 <| mm_get [6, 3, 0] <| mm_ret Q
  | 3 => mm_lda 0 <| mm_get [6, 5, 0] <| mm_ret Q
  | 4 => mm_lda 0 <| mm_get [6, 10, 2] <| mm_get [0, 1, 0] <| mm_ret Q
  | 5 => mm_lda 0 <| mm_get [6, 9, 3] <| mm_ifc .eq 6 J <| mm_cst (.int 1) <| mm_go 7 J
  | 6 => mm_cst (.int 0) <| mm_go 7 J
  | 7 => mm_ret Q
  | 8 => mm_cst (.int (-2)) <| mm_ret Q
  | _ => fun _ _ _ _ => False
def pp_X6_told : Nat → Nat
  | 0 => 0
  | 1 => 36
  | 2 => 41
  | 3 => 46
  | 4 => 51
  | 5 => 59
  | 6 => 70
  | 7 => 71
  | 8 => 72
  | _ => 0
/-- 78 HiddenSums.clear -/
def pb_X6_clear (J : mm_J) (C : mm_C) (Q : mm_Q) : mm_J := fun t => match t with
  | 0 => mm_lda 0 <| mm_cst (.int 0) <| mm_put [6, 1, 0] <| mm_lda 0 <| mm_cst (.int 0) <| mm_put [6, 3, 0] <| mm_lda 0 <| mm_cst (.int 0) <| mm_put [6, 5, 0] <| mm_lda 0 <| mm_cst (.int (-1)) <| mm_put [6, 6, 0] <| mm_lda 0 <| mm_cst (.int 0) <| mm_put [6, 8, 0] <| mm_lda 0 <| mm_cst (.int 0) <| mm_put [6, 9, 3] <| mm_lda 0 <| mm_get [6, 10, 2] <| mm_cst (.int 0) <| mm_put [0, 1, 0] <| mm_rtv Q
  | _ => fun _ _ _ _ => False
def pp_X6_clear : Nat → Nat
  | 0 => 0
  | _ => 0
/-- 79 HiddenSums.isObject -/
def pb_X6_isObject (J : mm_J) (C : mm_C) (Q : mm_Q) : mm_J := fun t => match t with
  | 0 => mm_ldi 1 <| mm_ifc .lt 1 J <| mm_ldi 1 <| mm_lda 0 <| mm_get [6, 1, 0] <| mm_icm .ge 1 J <| mm_cst (.int 1) <| mm_go 2 J
  | 1 => mm_cst (.int 0) <| mm_go 2 J
  | 2 => mm_rtz Q
  | _ => fun _ _ _ _ => False
def pp_X6_isObject : Nat → Nat
  | 0 => 0
  | 1 => 16
  | 2 => 17
  | _ => 0
/-- 80 HiddenSums.isUser -/
def pb_X6_isUser (J : mm_J) (C : mm_C) (Q : mm_Q) : mm_J := fun t => match t with
  | 0 => mm_ldi 1 <| mm_ifc .lt 1 J <| mm_ldi 1 <| mm_lda 0 <| mm_get [6, 3, 0] <| mm_icm .ge 1 J <| mm_cst (.int 1) <| mm_go 2 J
  | 1 => mm_cst (.int 0) <| mm_go 2 J
  | 2 => mm_rtz Q
  | _ => fun _ _ _ _ => False
def pp_X6_isUser : Nat → Nat
  | 0 => 0
  | 1 => 16
  | 2 => 17
  | _ => 0
/-- 81 HiddenSums.isField -/
def pb_X6_isField (J : mm_J) (C : mm_C) (Q : mm_Q) : mm_J := fun t => match t with
  | 0 => mm_ldi 0 <| mm_ifc .lt 1 J <| mm_ldi 0 <| mm_cst (.int 4) <| mm_icm .ge 1 J <| mm_cst (.int 1) <| mm_go 2 J
  | 1 => mm_cst (.int 0) <| mm_go 2 J
  | 2 => mm_rtz Q
  | _ => fun _ _ _ _ => False
def pp_X6_isField : Nat → Nat
  | 0 => 0
  | 1 => 13
  | 2 => 14
  | _ => 0
/-- 82 HiddenSums.isSet -/
def pb_X6_isSet (J : mm_J) (C : mm_C) (Q : mm_Q) : mm_J := fun t => match t with
  | 0 => mm_ldi 1 <| mm_ifc .eq 1 J <| mm_ldi 1 <| mm_lda 0 <| mm_get [6, 1, 0] <| mm_ii (fun x y => (x.toUInt32 >>> (y.toUInt32 &&& Int32.toUInt32 31)).toInt32) <| mm_ifc .ne 1 J <| mm_cst (.int 1) <| mm_go 2 J
  | 1 => mm_cst (.int 0) <| mm_go 2 J
  | 2 => mm_rtz Q
  | _ => fun _ _ _ _ => False
def pp_X6_isSet : Nat → Nat
  | 0 => 0
  | 1 => 17
  | 2 => 18
  | _ => 0
/-- 83 HiddenSums.takeTape -/
def pb_X6_takeTape (J : mm_J) (C : mm_C) (Q : mm_Q) : mm_J := fun t => match t with
  | 0 => mm_lda 0 <| mm_get [6, 11, 2] <| mm_lda 0 <| mm_get [6, 4, 2] <| mm_lda 0 <| mm_get [6, 5, 0] <| mm_cav 4 3 1 C <| mm_lda 0 <| mm_cst (.int 0) <| mm_put [6, 5, 0] <| mm_lda 0 <| mm_lda 0 <| mm_get [6, 11, 2] <| mm_get [1, 1, 0] <| mm_ifc .ne 1 J <| mm_cst (.int (-1)) <| mm_go 2 J
  | 1 => mm_lda 0 <| mm_get [6, 11, 2] <| mm_get [1, 2, 0] <| mm_go 2 J
  | 2 => mm_put [6, 6, 0] <| mm_lda 0 <| mm_get [6, 11, 2] <| mm_get [1, 1, 0] <| mm_ret Q
  | _ => fun _ _ _ _ => False
def pp_X6_takeTape : Nat → Nat
  | 0 => 0
  | 1 => 35
  | 2 => 42
  | _ => 0
/-- 84 HiddenSums.takeQuery -/
def pb_X6_takeQuery (J : mm_J) (C : mm_C) (Q : mm_Q) : mm_J := fun t => match t with
  | 0 => mm_lda 0 <| mm_cav 83 1 6 C <| mm_sti 3 <| mm_ldi 3 <| mm_ifc .eq 1 J <| mm_lda 0 <| mm_get [6, 10, 2] <| mm_ldi 1 <| mm_ldi 2 <| mm_cst (.int 0) <| mm_cst (.int 0) <| mm_cst (.int 3) <| mm_cav 2 6 0 C <| mm_cst (.int (-10)) <| mm_ldi 3 <| mm_ii (fun x y => x - y) <| mm_ret Q
  | 1 => mm_lda 0 <| mm_get [6, 2, 2] <| mm_ldi 1 <| mm_rld "HiddenSums$User" <| mm_lda 0 <| mm_get [6, 11, 2] <| mm_get [1, 0, 2] <| mm_get [4, 3, 0] <| mm_cav 54 2 5 C <| mm_ifc .eq 2 J <| mm_lda 0 <| mm_get [6, 10, 2] <| mm_ldi 1 <| mm_ldi 2 <| mm_cst (.int 0) <| mm_cst (.int 0) <| mm_cst (.int 2) <| mm_cav 2 6 0 C <| mm_cst (.int (-6)) <| mm_ret Q
  | 2 => mm_lda 0 <| mm_get [6, 10, 2] <| mm_ldi 1 <| mm_ldi 2 <| mm_cst (.int 0) <| mm_cst (.int 0) <| mm_cst (.int 0) <| mm_cav 2 6 0 C <| mm_cst (.int 0) <| mm_ret Q
  | _ => fun _ _ _ _ => False
def pp_X6_takeQuery : Nat → Nat
  | 0 => 0
  | 1 => 26
  | 2 => 63
  | _ => 0
/-- 85 HiddenSums.isSeen -/
def pb_X6_isSeen (J : mm_J) (C : mm_C) (Q : mm_Q) : mm_J := fun t => match t with
  | 0 => mm_lda 0 <| mm_get [6, 12, 2] <| mm_lda 1 <| mm_get [5, 0, 2] <| mm_lda 0 <| mm_get [6, 0, 2] <| mm_ldi 2 <| mm_cst (.int 4) <| mm_ii (fun x y => x * y) <| mm_cav 23 4 2 C <| mm_cst (.int 1) <| mm_icm .ne 1 J <| mm_cst (.int 1) <| mm_go 2 J
  | 1 => mm_cst (.int 0) <| mm_go 2 J
  | 2 => mm_rtz Q
  | _ => fun _ _ _ _ => False
def pp_X6_isSeen : Nat → Nat
  | 0 => 0
  | 1 => 26
  | 2 => 27
  | _ => 0
/-- 86 HiddenSums.isMatch -/
def pb_X6_isMatch (J : mm_J) (C : mm_C) (Q : mm_Q) : mm_J := fun t => match t with
  | 0 => mm_lda 0 <| mm_lda 1 <| mm_ldi 3 <| mm_cav 85 3 6 C <| mm_ifc .eq 1 J <| mm_lda 0 <| mm_get [6, 12, 2] <| mm_lda 2 <| mm_lda 0 <| mm_get [6, 0, 2] <| mm_ldi 3 <| mm_cst (.int 4) <| mm_ii (fun x y => x * y) <| mm_cav 23 4 2 C <| mm_cst (.int 1) <| mm_icm .ne 1 J <| mm_cst (.int 1) <| mm_go 2 J
  | 1 => mm_cst (.int 0) <| mm_go 2 J
  | 2 => mm_rtz Q
  | _ => fun _ _ _ _ => False
def pp_X6_isMatch : Nat → Nat
  | 0 => 0
  | 1 => 32
  | 2 => 33
  | _ => 0
/-- 87 HiddenSums.countByRule -/
def pb_X6_countByRule (J : mm_J) (C : mm_C) (Q : mm_Q) : mm_J := fun t => match t with
  | 0 => mm_cst (.int 0) <| mm_sti 3 <| mm_cst (.int 0) <| mm_sti 4 <| mm_go 1 J
  | 1 => mm_ldi 4 <| mm_lda 0 <| mm_get [6, 1, 0] <| mm_icm .ge 3 J <| mm_lda 0 <| mm_get [6, 12, 2] <| mm_lda 1 <| mm_get [5, 0, 2] <| mm_lda 0 <| mm_get [6, 0, 2] <| mm_ldi 4 <| mm_cst (.int 4) <| mm_ii (fun x y => x * y) <| mm_cav 23 4 2 C <| mm_ldi 2 <| mm_icm .ne 2 J <| mm_inc 3 (.int 1) <| mm_go 2 J
  | 2 => mm_inc 4 (.int 1) <| mm_go 1 J
  | 3 => mm_ldi 3 <| mm_ret Q
  | _ => fun _ _ _ _ => False
def pp_X6_countByRule : Nat → Nat
  | 0 => 0
  | 1 => 5
  | 2 => 40
  | 3 => 46
  | _ => 0
/-- 88 HiddenSums.countBetween -/
def pb_X6_countBetween (J : mm_J) (C : mm_C) (Q : mm_Q) : mm_J := fun t => match t with
  | 0 => mm_cst (.int 0) <| mm_sti 5 <| mm_cst (.int 0) <| mm_sti 6 <| mm_go 1 J
  | 1 => mm_ldi 6 <| mm_lda 0 <| mm_get [6, 1, 0] <| mm_icm .ge 3 J <| mm_lda 0 <| mm_get [6, 0, 2] <| mm_ldi 6 <| mm_cst (.int 4) <| mm_ii (fun x y => x * y) <| mm_ldi 2 <| mm_ii (fun x y => x + y) <| mm_ald .int <| mm_sti 7 <| mm_ldi 7 <| mm_ldi 3 <| mm_icm .lt 2 J <| mm_ldi 7 <| mm_ldi 4 <| mm_icm .gt 2 J <| mm_lda 0 <| mm_lda 1 <| mm_ldi 6 <| mm_cav 85 3 6 C <| mm_ifc .eq 2 J <| mm_inc 5 (.int 1) <| mm_go 2 J
  | 2 => mm_inc 6 (.int 1) <| mm_go 1 J
  | 3 => mm_ldi 5 <| mm_ret Q
  | _ => fun _ _ _ _ => False
def pp_X6_countBetween : Nat → Nat
  | 0 => 0
  | 1 => 6
  | 2 => 54
  | 3 => 60
  | _ => 0
/-- 89 HiddenSums.moveCursor -/
def pb_X6_moveCursor (J : mm_J) (C : mm_C) (Q : mm_Q) : mm_J := fun t => match t with
  | 0 => mm_lda 1 <| mm_get [5, 5, 0] <| mm_cst (.int 1) <| mm_ii (fun x y => x + y) <| mm_sti 2 <| mm_go 1 J
  | 1 => mm_ldi 2 <| mm_lda 0 <| mm_get [6, 1, 0] <| mm_icm .ge 3 J <| mm_lda 0 <| mm_lda 1 <| mm_lda 1 <| mm_get [5, 1, 2] <| mm_ldi 2 <| mm_cav 86 4 6 C <| mm_ifc .eq 2 J <| mm_lda 1 <| mm_ldi 2 <| mm_put [5, 5, 0] <| mm_ldi 2 <| mm_ret Q
  | 2 => mm_inc 2 (.int 1) <| mm_go 1 J
  | 3 => mm_lda 1 <| mm_lda 0 <| mm_get [6, 1, 0] <| mm_cst (.int 1) <| mm_ii (fun x y => x - y) <| mm_put [5, 5, 0] <| mm_cst (.int (-3)) <| mm_ret Q
  | _ => fun _ _ _ _ => False
def pp_X6_moveCursor : Nat → Nat
  | 0 => 0
  | 1 => 7
  | 2 => 35
  | 3 => 41
  | _ => 0
/-- 90 HiddenSums.hiddenFrom -/
def pb_X6_hiddenFrom (J : mm_J) (C : mm_C) (Q : mm_Q) : mm_J := fun t => match t with
  | 0 => mm_lda 1 <| mm_cst (.int 1) <| mm_ldi 2 <| mm_ii (fun x y => x <<< (y &&& 31)) <| mm_cav 54 2 5 C <| mm_sti 3 <| mm_cst (.int 0) <| mm_sti 4 <| mm_cst (.int 0) <| mm_sti 5 <| mm_go 1 J
  | 1 => mm_ldi 5 <| mm_lda 0 <| mm_get [6, 1, 0] <| mm_icm .ge 4 J <| mm_ldi 3 <| mm_ifc .ne 2 J <| mm_lda 0 <| mm_lda 1 <| mm_ldi 5 <| mm_cav 85 3 6 C <| mm_ifc .ne 3 J <| mm_go 2 J
  | 2 => mm_ldi 4 <| mm_cst (.int 1) <| mm_ldi 5 <| mm_ii (fun x y => x <<< (y &&& 31)) <| mm_ii (fun x y => x ||| y) <| mm_sti 4 <| mm_go 3 J
  | 3 => mm_inc 5 (.int 1) <| mm_go 1 J
  | 4 => mm_ldi 4 <| mm_ret Q
  | _ => fun _ _ _ _ => False
def pp_X6_hiddenFrom : Nat → Nat
  | 0 => 0
  | 1 => 14
  | 2 => 37
  | 3 => 46
  | 4 => 52
  | _ => 0
/-- 91 HiddenSums.total -/
def pb_X6_total (J : mm_J) (C : mm_C) (Q : mm_Q) : mm_J := fun t => match t with
  | 0 => mm_cst (.int 0) <| mm_sti 3 <| mm_cst (.int 0) <| mm_sti 4 <| mm_go 1 J
  | 1 => mm_ldi 4 <| mm_lda 0 <| mm_get [6, 1, 0] <| mm_icm .ge 3 J <| mm_ldi 2 <| mm_ldi 4 <| mm_ii (fun x y => x >>> (y &&& 31)) <| mm_cst (.int 1) <| mm_ii (fun x y => x &&& y) <| mm_ifc .eq 2 J <| mm_ldi 3 <| mm_lda 0 <| mm_get [6, 0, 2] <| mm_ldi 4 <| mm_cst (.int 4) <| mm_ii (fun x y => x * y) <| mm_ldi 1 <| mm_ii (fun x y => x + y) <| mm_ald .int <| mm_ii (fun x y => x + y) <| mm_sti 3 <| mm_go 2 J
  | 2 => mm_inc 4 (.int 1) <| mm_go 1 J
  | 3 => mm_ldi 3 <| mm_ret Q
  | _ => fun _ _ _ _ => False
def pp_X6_total : Nat → Nat
  | 0 => 0
  | 1 => 5
  | 2 => 37
  | 3 => 43
  | _ => 0
/-- 92 HiddenSums.tryOut -/
def pb_X6_tryOut (J : mm_J) (C : mm_C) (Q : mm_Q) : mm_J := fun t => match t with
  | 0 => mm_lda 0 <| mm_get [6, 13, 2] <| mm_lda 1 <| mm_get [5, 2, 2] <| mm_ldi 2 <| mm_rld "HiddenSums$Reduced" <| mm_cav 32 2 3 C <| mm_lda 0 <| mm_get [6, 13, 2] <| mm_ldi 3 <| mm_cav 36 2 3 C <| mm_rtv Q
  | _ => fun _ _ _ _ => False
def pp_X6_tryOut : Nat → Nat
  | 0 => 0
  | _ => 0
/-- 93 HiddenSums.tell -/
def pb_X6_tell (J : mm_J) (C : mm_C) (Q : mm_Q) : mm_J := fun t => match t with
  | 0 => mm_lda 0 <| mm_lda 1 <| mm_ldi 2 <| mm_ldi 3 <| mm_cav 92 4 6 C <| mm_lda 1 <| mm_get [5, 2, 2] <| mm_ldi 2 <| mm_rld "HiddenSums$Reduced" <| mm_sta 4 <| mm_lda 0 <| mm_get [6, 13, 2] <| mm_cav 35 1 3 C <| mm_lda 4 <| mm_cav 35 1 3 C <| mm_cst (.int (-1)) <| mm_ii (fun x y => x ^^^ y) <| mm_ii (fun x y => x &&& y) <| mm_sti 5 <| mm_ldi 5 <| mm_lda 0 <| mm_lda 1 <| mm_ldi 2 <| mm_cav 90 3 6 C <| mm_ii (fun x y => x &&& y) <| mm_ifc .eq 1 J <| mm_cst (.int 0) <| mm_rtz Q
  | 1 => mm_lda 4 <| mm_lda 0 <| mm_get [6, 13, 2] <| mm_cav 32 2 3 C <| mm_lda 0 <| mm_cst (.int 1) <| mm_put [6, 9, 3] <| mm_cst (.int 1) <| mm_rtz Q
  | _ => fun _ _ _ _ => False
def pp_X6_tell : Nat → Nat
  | 0 => 0
  | 1 => 46
  | _ => 0
/-- 94 HiddenSumsModel.<init> -/
def pb_X7_init (J : mm_J) (C : mm_C) (Q : mm_Q) : mm_J := fun t => match t with
  | 0 => mm_lda 0 <| mm_obi <| mm_lda 0 <| mm_cst (.int 48) <| mm_nar .int (15, 4036) <| mm_put [7, 3, 2] <| mm_lda 0 <| mm_cst (.int 300) <| mm_nar .byte (15, 4036) <| mm_put [7, 4, 2] <| mm_lda 0 <| mm_cst (.int (-1)) <| mm_put [7, 6, 0] <| mm_lda 0 <| mm_cst (.int 640) <| mm_nar .int (15, 4036) <| mm_put [7, 7, 2] <| mm_lda 0 <| mm_cst (.int 10) <| mm_nar .int (15, 4036) <| mm_put [7, 8, 2] <| mm_lda 0 <| mm_cst (.int 4) <| mm_nar .int (15, 4036) <| mm_put [7, 9, 2] <| mm_lda 0 <| mm_cst (.int 4) <| mm_nar .boolean (15, 4036) <| mm_put [7, 10, 2] <| mm_lda 0 <| mm_cst (.int 4) <| mm_nar .int (15, 4036) <| mm_put [7, 11, 2] <| mm_lda 0 <| mm_cst (.int 750) <| mm_nar .int (15, 4036) <| mm_put [7, 12, 2] <| mm_lda 0 <| mm_cst (.int 12) <| mm_nar .int (15, 4036) <| mm_put [7, 14, 2] <| mm_lda 0 <| mm_cst (.int 150) <| mm_nar .int (15, 4036) <| mm_put [7, 16, 2] <| mm_lda 0 <| mm_cst (.int 150) <| mm_nar .int (15, 4036) <| mm_put [7, 17, 2] <| mm_lda 0 <| mm_cst (.int 64) <| mm_nar .long (15, 4036) <| mm_put [7, 27, 2] <| mm_lda 0 <| mm_cst (.int 64) <| mm_nar .boolean (15, 4036) <| mm_put [7, 28, 2] <| mm_lda 0 <| mm_cst (.int 1824) <| mm_nar .long (15, 4036) <| mm_put [7, 29, 2] <| mm_lda 0 <| mm_cst (.int 12) <| mm_nar .int (15, 4036) <| mm_put [7, 30, 2] <| mm_rtv Q
  | _ => fun _ _ _ _ => False
def pp_X7_init : Nat → Nat
  | 0 => 0
  | _ => 0
/-- 95 HiddenSumsModel.thrown -/
def pb_X7_thrown (J : mm_J) (C : mm_C) (Q : mm_Q) : mm_J := fun t => match t with
  | 0 => mm_lda 0 <| mm_get [7, 0, 0] <| mm_ret Q
  | _ => fun _ _ _ _ => False
def pp_X7_thrown : Nat → Nat
  | 0 => 0
  | _ => 0
/-- 96 HiddenSumsModel.isObject -/
def pb_X7_isObject (J : mm_J) (C : mm_C) (Q : mm_Q) : mm_J := fun t => match t with
  | 0 => mm_ldi 1 <| mm_ifc .lt 1 J <| mm_ldi 1 <| mm_lda 0 <| mm_get [7, 1, 0] <| mm_icm .ge 1 J <| mm_cst (.int 1) <| mm_go 2 J
  | 1 => mm_cst (.int 0) <| mm_go 2 J
  | 2 => mm_rtz Q
  | _ => fun _ _ _ _ => False
def pp_X7_isObject : Nat → Nat
  | 0 => 0
  | 1 => 16
  | 2 => 17
  | _ => 0
/-- 97 HiddenSumsModel.isUser -/
def pb_X7_isUser (J : mm_J) (C : mm_C) (Q : mm_Q) : mm_J := fun t => match t with
  | 0 => mm_ldi 1 <| mm_ifc .lt 1 J <| mm_ldi 1 <| mm_lda 0 <| mm_get [7, 2, 0] <| mm_icm .ge 1 J <| mm_cst (.int 1) <| mm_go 2 J
  | 1 => mm_cst (.int 0) <| mm_go 2 J
  | 2 => mm_rtz Q
  | _ => fun _ _ _ _ => False
def pp_X7_isUser : Nat → Nat
  | 0 => 0
  | 1 => 16
  | 2 => 17
  | _ => 0
/-- 98 HiddenSumsModel.isField -/
def pb_X7_isField (J : mm_J) (C : mm_C) (Q : mm_Q) : mm_J := fun t => match t with
  | 0 => mm_ldi 0 <| mm_ifc .lt 1 J <| mm_ldi 0 <| mm_cst (.int 3) <| mm_icm .gt 1 J <| mm_cst (.int 1) <| mm_go 2 J
  | 1 => mm_cst (.int 0) <| mm_go 2 J
  | 2 => mm_rtz Q
  | _ => fun _ _ _ _ => False
def pp_X7_isField : Nat → Nat
  | 0 => 0
  | 1 => 13
  | 2 => 14
  | _ => 0
/-- 99 HiddenSumsModel.isSet -/
def pb_X7_isSet (J : mm_J) (C : mm_C) (Q : mm_Q) : mm_J := fun t => match t with
  | 0 => mm_ldi 1 <| mm_ifc .le 1 J <| mm_ldi 1 <| mm_cst (.int 1) <| mm_lda 0 <| mm_get [7, 1, 0] <| mm_ii (fun x y => x <<< (y &&& 31)) <| mm_icm .ge 1 J <| mm_cst (.int 1) <| mm_go 2 J
  | 1 => mm_cst (.int 0) <| mm_go 2 J
  | 2 => mm_rtz Q
  | _ => fun _ _ _ _ => False
def pp_X7_isSet : Nat → Nat
  | 0 => 0
  | 1 => 18
  | 2 => 19
  | _ => 0
/-- 100 HiddenSumsModel.object -/
def pb_X7_object (J : mm_J) (C : mm_C) (Q : mm_Q) : mm_J := fun t => match t with
  | 0 => mm_lda 0 <| mm_cst (.int 0) <| mm_put [7, 0, 0] <| mm_lda 0 <| mm_get [7, 18, 0] <| mm_ifc .le 1 J <| mm_cst (.int (-5)) <| mm_ret Q
  | 1 => mm_lda 0 <| mm_get [7, 1, 0] <| mm_cst (.int 12) <| mm_icm .ne 2 J <| mm_cst (.int (-4)) <| mm_ret Q
  | 2 => mm_cst (.int 0) <| mm_sti 1 <| mm_go 3 J
  | 3 => mm_ldi 1 <| mm_cst (.int 4) <| mm_icm .ge 4 J <| mm_lda 0 <| mm_get [7, 3, 2] <| mm_cst (.int 4) <| mm_lda 0 <| mm_get [7, 1, 0] <| mm_ii (fun x y => x * y) <| mm_ldi 1 <| mm_ii (fun x y => x + y) <| mm_cst (.int 0) <| mm_ast .int (fun x => x) <| mm_inc 1 (.int 1) <| mm_go 3 J
  | 4 => mm_lda 0 <| mm_dup <| mm_get [7, 1, 0] <| mm_cst (.int 1) <| mm_ii (fun x y => x + y) <| mm_put [7, 1, 0] <| mm_lda 0 <| mm_get [7, 1, 0] <| mm_cst (.int 1) <| mm_ii (fun x y => x - y) <| mm_ret Q
  | _ => fun _ _ _ _ => False
def pp_X7_object : Nat → Nat
  | 0 => 0
  | 1 => 15
  | 2 => 27
  | 3 => 29
  | 4 => 54
  | _ => 0
/-- 101 HiddenSumsModel.set -/
def pb_X7_set (J : mm_J) (C : mm_C) (Q : mm_Q) : mm_J := fun t => match t with
  | 0 => mm_lda 0 <| mm_cst (.int 0) <| mm_put [7, 0, 0] <| mm_lda 0 <| mm_ldi 1 <| mm_cav 96 2 7 C <| mm_ifc .eq 1 J <| mm_ldi 2 <| mm_cas 98 1 C <| mm_ifc .ne 2 J <| mm_go 1 J
  | 1 => mm_cst (.int (-1)) <| mm_ret Q
  | 2 => mm_ldi 3 <| mm_cst (.int (-1000)) <| mm_icm .lt 3 J <| mm_ldi 3 <| mm_cst (.int 1000) <| mm_icm .le 4 J <| mm_go 3 J
  | 3 => mm_cst (.int (-2)) <| mm_ret Q
  | 4 => mm_lda 0 <| mm_get [7, 18, 0] <| mm_ifc .le 5 J <| mm_cst (.int (-5)) <| mm_ret Q
  | 5 => mm_lda 0 <| mm_get [7, 3, 2] <| mm_cst (.int 4) <| mm_ldi 1 <| mm_ii (fun x y => x * y) <| mm_ldi 2 <| mm_ii (fun x y => x + y) <| mm_ldi 3 <| mm_ast .int (fun x => x) <| mm_cst (.int 1) <| mm_ret Q
  | _ => fun _ _ _ _ => False
def pp_X7_set : Nat → Nat
  | 0 => 0
  | 1 => 20
  | 2 => 22
  | 3 => 36
  | 4 => 39
  | 5 => 49
  | _ => 0
/-- 102 HiddenSumsModel.user -/
def pb_X7_user (J : mm_J) (C : mm_C) (Q : mm_Q) : mm_J := fun t => match t with
  | 0 => mm_lda 0 <| mm_cst (.int 0) <| mm_put [7, 0, 0] <| mm_lda 0 <| mm_get [7, 2, 0] <| mm_cst (.int 4) <| mm_icm .ne 1 J <| mm_cst (.int (-4)) <| mm_ret Q
  | 1 => mm_lda 0 <| mm_get [7, 7, 2] <| mm_cst (.int 128) <| mm_lda 0 <| mm_get [7, 2, 0] <| mm_ii (fun x y => x * y) <| mm_cst (.int (-7)) <| mm_ast .int (fun x => x) <| mm_lda 0 <| mm_get [7, 8, 2] <| mm_cst (.int 2) <| mm_lda 0 <| mm_get [7, 2, 0] <| mm_ii (fun x y => x * y) <| mm_cst (.int 1) <| mm_ast .int (fun x => x) <| mm_lda 0 <| mm_get [7, 9, 2] <| mm_lda 0 <| mm_get [7, 2, 0] <| mm_cst (.int 0) <| mm_ast .int (fun x => x) <| mm_lda 0 <| mm_get [7, 10, 2] <| mm_lda 0 <| mm_get [7, 2, 0] <| mm_cst (.int 0) <| mm_ast .boolean (vp_nar .boolean) <| mm_lda 0 <| mm_get [7, 11, 2] <| mm_lda 0 <| mm_get [7, 2, 0] <| mm_cst (.int 0) <| mm_ast .int (fun x => x) <| mm_lda 0 <| mm_dup <| mm_get [7, 2, 0] <| mm_cst (.int 1) <| mm_ii (fun x y => x + y) <| mm_put [7, 2, 0] <| mm_lda 0 <| mm_get [7, 2, 0] <| mm_cst (.int 1) <| mm_ii (fun x y => x - y) <| mm_ret Q
  | _ => fun _ _ _ _ => False
def pp_X7_user : Nat → Nat
  | 0 => 0
  | 1 => 16
  | _ => 0
/-- 103 HiddenSumsModel.type -/
def pb_X7_type (J : mm_J) (C : mm_C) (Q : mm_Q) : mm_J := fun t => match t with
  | 0 => mm_lda 0 <| mm_cst (.int 0) <| mm_put [7, 0, 0] <| mm_ldi 3 <| mm_ifc .lt 1 J <| mm_ldi 3 <| mm_cst (.int 8) <| mm_icm .le 2 J <| mm_go 1 J
  | 1 => mm_cst (.int (-2)) <| mm_ret Q
  | 2 => mm_ldi 3 <| mm_ifc .ne 3 J <| mm_lda 0 <| mm_cst (.int 0) <| mm_put [7, 5, 0] <| mm_cst (.int 0) <| mm_ret Q
  | 3 => mm_lda 0 <| mm_get [7, 5, 0] <| mm_ldi 3 <| mm_ii (fun x y => x + y) <| mm_cst (.int 300) <| mm_icm .le 4 J <| mm_cst (.int (-4)) <| mm_ret Q
  | 4 => mm_ldi 3 <| mm_cst (.int 1) <| mm_ii (fun x y => x - y) <| mm_sti 4 <| mm_go 5 J
  | 5 => mm_ldi 4 <| mm_ifc .lt 6 J <| mm_lda 0 <| mm_get [7, 4, 2] <| mm_lda 0 <| mm_get [7, 5, 0] <| mm_ldl 1 <| mm_cst (.int 8) <| mm_ldi 4 <| mm_ii (fun x y => x * y) <| mm_ls (fun x y => x >>> (y.toInt64 &&& 63)) <| mm_l2i <| mm_i1 (fun x => x.toInt8.toInt32) <| mm_ast .byte (vp_nar .byte) <| mm_lda 0 <| mm_dup <| mm_get [7, 5, 0] <| mm_cst (.int 1) <| mm_ii (fun x y => x + y) <| mm_put [7, 5, 0] <| mm_inc 4 (.int (-1)) <| mm_go 5 J
  | 6 => mm_lda 0 <| mm_get [7, 5, 0] <| mm_ret Q
  | _ => fun _ _ _ _ => False
def pp_X7_type : Nat → Nat
  | 0 => 0
  | 1 => 15
  | 2 => 18
  | 3 => 29
  | 4 => 44
  | 5 => 49
  | 6 => 88
  | _ => 0
/-- 104 HiddenSumsModel.isLetter -/
def pb_X7_isLetter (J : mm_J) (C : mm_C) (Q : mm_Q) : mm_J := fun t => match t with
  | 0 => mm_ldi 0 <| mm_cst (.int 97) <| mm_icm .lt 1 J <| mm_ldi 0 <| mm_cst (.int 122) <| mm_icm .gt 1 J <| mm_cst (.int 1) <| mm_go 2 J
  | 1 => mm_cst (.int 0) <| mm_go 2 J
  | 2 => mm_rtz Q
  | _ => fun _ _ _ _ => False
def pp_X7_isLetter : Nat → Nat
  | 0 => 0
  | 1 => 16
  | 2 => 17
  | _ => 0
/-- 105 HiddenSumsModel.isFigure -/
def pb_X7_isFigure (J : mm_J) (C : mm_C) (Q : mm_Q) : mm_J := fun t => match t with
  | 0 => mm_ldi 0 <| mm_cst (.int 48) <| mm_icm .lt 1 J <| mm_ldi 0 <| mm_cst (.int 57) <| mm_icm .gt 1 J <| mm_cst (.int 1) <| mm_go 2 J
  | 1 => mm_cst (.int 0) <| mm_go 2 J
  | 2 => mm_rtz Q
  | _ => fun _ _ _ _ => False
def pp_X7_isFigure : Nat → Nat
  | 0 => 0
  | 1 => 16
  | 2 => 17
  | _ => 0
/-- 106 HiddenSumsModel.wordFrom -/
def pb_X7_wordFrom (J : mm_J) (C : mm_C) (Q : mm_Q) : mm_J := fun t => match t with
  | 0 => mm_cst (.long 0) <| mm_stl 3 <| mm_cst (.int 0) <| mm_sti 5 <| mm_go 1 J
  | 1 => mm_ldi 5 <| mm_ldi 2 <| mm_icm .ge 2 J <| mm_ldi 2 <| mm_cst (.int 5) <| mm_icm .gt 2 J <| mm_ldl 3 <| mm_cst (.int 8) <| mm_ls (fun x y => x <<< (y.toInt64 &&& 63)) <| mm_lda 0 <| mm_get [7, 4, 2] <| mm_ldi 1 <| mm_ldi 5 <| mm_ii (fun x y => x + y) <| mm_ald .byte <| mm_i2l <| mm_ll (fun x y => x ||| y) <| mm_stl 3 <| mm_inc 5 (.int 1) <| mm_go 1 J
  | 2 => mm_ldi 2 <| mm_cst (.int 1) <| mm_icm .ne 5 J <| mm_ldl 3 <| mm_cst (.long 97) <| mm_cmp <| mm_ifc .lt 3 J <| mm_ldl 3 <| mm_cst (.long 100) <| mm_cmp <| mm_ifc .gt 3 J <| mm_cst (.int (-20)) <| mm_ldl 3 <| mm_cst (.long 97) <| mm_ll (fun x y => x - y) <| mm_l2i <| mm_ii (fun x y => x - y) <| mm_go 4 J
  | 3 => mm_cst (.int (-2)) <| mm_go 4 J
  | 4 => mm_ret Q
  | 5 => mm_ldl 3 <| mm_cst (.long 6385252) <| mm_cmp <| mm_ifc .ne 6 J <| mm_cst (.int (-3)) <| mm_go 11 J
  | 6 => mm_ldl 3 <| mm_cst (.long 28530) <| mm_cmp <| mm_ifc .ne 7 J <| mm_cst (.int (-4)) <| mm_go 11 J
  | 7 => mm_ldl 3 <| mm_cst (.long 7237492) <| mm_cmp <| mm_ifc .ne 8 J <| mm_cst (.int (-5)) <| mm_go 11 J
  | 8 => mm_ldl 3 <| mm_cst (.long 1953658213) <| mm_cmp <| mm_ifc .ne 9 J <| mm_cst (.int (-6)) <| mm_go 11 J
  | 9 => mm_ldl 3 <| mm_cst (.long 439721161573) <| mm_cmp <| mm_ifc .ne 10 J <| mm_cst (.int (-7)) <| mm_go 11 J
  | 10 => mm_cst (.int (-2)) <| mm_go 11 J
  | 11 => mm_ret Q
  | _ => fun _ _ _ _ => False
def pp_X7_wordFrom : Nat → Nat
  | 0 => 0
  | 1 => 5
  | 2 => 38
  | 3 => 71
  | 4 => 73
  | 5 => 74
  | 6 => 87
  | 7 => 100
  | 8 => 113
  | 9 => 126
  | 10 => 139
  | 11 => 141
  | _ => 0
/-- 107 HiddenSumsModel.next -/
def pb_X7_next (J : mm_J) (C : mm_C) (Q : mm_Q) : mm_J := fun t => match t with
  | 0 => mm_lda 0 <| mm_get [7, 19, 0] <| mm_lda 0 <| mm_get [7, 5, 0] <| mm_icm .ge 1 J <| mm_lda 0 <| mm_get [7, 4, 2] <| mm_lda 0 <| mm_get [7, 19, 0] <| mm_ald .byte <| mm_cst (.int 32) <| mm_icm .ne 1 J <| mm_lda 0 <| mm_dup <| mm_get [7, 19, 0] <| mm_cst (.int 1) <| mm_ii (fun x y => x + y) <| mm_put [7, 19, 0] <| mm_go 0 J
  | 1 => mm_lda 0 <| mm_lda 0 <| mm_get [7, 19, 0] <| mm_put [7, 21, 0] <| mm_lda 0 <| mm_get [7, 19, 0] <| mm_lda 0 <| mm_get [7, 5, 0] <| mm_icm .ne 2 J <| mm_lda 0 <| mm_cst (.int (-1)) <| mm_put [7, 20, 0] <| mm_rtv Q
  | 2 => mm_lda 0 <| mm_get [7, 4, 2] <| mm_lda 0 <| mm_get [7, 19, 0] <| mm_ald .byte <| mm_sti 1 <| mm_lda 0 <| mm_get [7, 19, 0] <| mm_sti 2 <| mm_lda 0 <| mm_dup <| mm_get [7, 19, 0] <| mm_cst (.int 1) <| mm_ii (fun x y => x + y) <| mm_put [7, 19, 0] <| mm_ldi 1 <| mm_cas 104 1 C <| mm_ifc .eq 5 J <| mm_go 3 J
  | 3 => mm_lda 0 <| mm_get [7, 19, 0] <| mm_lda 0 <| mm_get [7, 5, 0] <| mm_icm .ge 4 J <| mm_lda 0 <| mm_get [7, 4, 2] <| mm_lda 0 <| mm_get [7, 19, 0] <| mm_ald .byte <| mm_cas 104 1 C <| mm_ifc .eq 4 J <| mm_lda 0 <| mm_dup <| mm_get [7, 19, 0] <| mm_cst (.int 1) <| mm_ii (fun x y => x + y) <| mm_put [7, 19, 0] <| mm_go 3 J
  | 4 => mm_lda 0 <| mm_lda 0 <| mm_ldi 2 <| mm_lda 0 <| mm_get [7, 19, 0] <| mm_ldi 2 <| mm_ii (fun x y => x - y) <| mm_cav 106 3 7 C <| mm_put [7, 20, 0] <| mm_go 18 J
  | 5 => mm_ldi 1 <| mm_cas 105 1 C <| mm_ifc .eq 12 J <| mm_ldi 1 <| mm_cst (.int 48) <| mm_ii (fun x y => x - y) <| mm_sti 3 <| mm_go 6 J
  | 6 => mm_lda 0 <| mm_get [7, 19, 0] <| mm_lda 0 <| mm_get [7, 5, 0] <| mm_icm .ge 9 J <| mm_lda 0 <| mm_get [7, 4, 2] <| mm_lda 0 <| mm_get [7, 19, 0] <| mm_ald .byte <| mm_cas 105 1 C <| mm_ifc .eq 9 J <| mm_lda 0 <| mm_get [7, 19, 0] <| mm_ldi 2 <| mm_ii (fun x y => x - y) <| mm_cst (.int 4) <| mm_icm .ge 7 J <| mm_cst (.int 10) <| mm_ldi 3 <| mm_ii (fun x y => x * y) <| mm_lda 0 <| mm_get [7, 4, 2] <| mm_lda 0 <| mm_get [7, 19, 0] <| mm_ald .byte <| mm_ii (fun x y => x + y) <| mm_cst (.int 48) <| mm_ii (fun x y => x - y) <| mm_go 8 J
  | 7 => mm_ldi 3 <| mm_go 8 J
  | 8 => mm_sti 3 <| mm_lda 0 <| mm_dup <| mm_get [7, 19, 0] <| mm_cst (.int 1) <| mm_ii (fun x y => x + y) <| mm_put [7, 19, 0] <| mm_go 6 J
  | 9 => mm_lda 0 <| mm_lda 0 <| mm_get [7, 19, 0] <| mm_ldi 2 <| mm_ii (fun x y => x - y) <| mm_cst (.int 4) <| mm_icm .le 10 J <| mm_cst (.int (-2)) <| mm_go 11 J
  | 10 => mm_ldi 3 <| mm_go 11 J
  | 11 => mm_put [7, 20, 0] <| mm_go 18 J
  | 12 => mm_ldi 1 <| mm_cst (.int 40) <| mm_icm .eq 13 J <| mm_ldi 1 <| mm_cst (.int 41) <| mm_icm .eq 13 J <| mm_ldi 1 <| mm_cst (.int 43) <| mm_icm .eq 13 J <| mm_ldi 1 <| mm_cst (.int 45) <| mm_icm .eq 13 J <| mm_ldi 1 <| mm_cst (.int 42) <| mm_icm .eq 13 J <| mm_ldi 1 <| mm_cst (.int 47) <| mm_icm .eq 13 J <| mm_ldi 1 <| mm_cst (.int 60) <| mm_icm .eq 13 J <| mm_ldi 1 <| mm_cst (.int 61) <| mm_icm .eq 13 J <| mm_ldi 1 <| mm_cst (.int 62) <| mm_icm .ne 14 J <| mm_go 13 J
  | 13 => mm_cst (.int 1) <| mm_go 15 J
  | 14 => mm_cst (.int 0) <| mm_go 15 J
  | 15 => mm_sti 3 <| mm_lda 0 <| mm_ldi 3 <| mm_ifc .eq 16 J <| mm_cst (.int (-100)) <| mm_ldi 1 <| mm_ii (fun x y => x - y) <| mm_go 17 J
  | 16 => mm_cst (.int (-2)) <| mm_go 17 J
  | 17 => mm_put [7, 20, 0] <| mm_go 18 J
  | 18 => mm_rtv Q
  | _ => fun _ _ _ _ => False
def pp_X7_next : Nat → Nat
  | 0 => 0
  | 1 => 38
  | 2 => 63
  | 3 => 95
  | 4 => 134
  | 5 => 152
  | 6 => 164
  | 7 => 220
  | 8 => 221
  | 9 => 235
  | 10 => 251
  | 11 => 252
  | 12 => 258
  | 13 => 312
  | 14 => 316
  | 15 => 317
  | 16 => 330
  | 17 => 332
  | 18 => 335
  | _ => 0
/-- 108 HiddenSumsModel.fail -/
def pb_X7_fail (J : mm_J) (C : mm_C) (Q : mm_Q) : mm_J := fun t => match t with
  | 0 => mm_lda 0 <| mm_get [7, 23, 0] <| mm_ifc .ne 1 J <| mm_lda 0 <| mm_ldi 1 <| mm_put [7, 23, 0] <| mm_lda 0 <| mm_lda 0 <| mm_get [7, 21, 0] <| mm_put [7, 24, 0] <| mm_go 1 J
  | 1 => mm_rtv Q
  | _ => fun _ _ _ _ => False
def pp_X7_fail : Nat → Nat
  | 0 => 0
  | 1 => 20
  | _ => 0
/-- 109 HiddenSumsModel.odd -/
def pb_X7_odd (J : mm_J) (C : mm_C) (Q : mm_Q) : mm_J := fun t => match t with
  | 0 => mm_lda 0 <| mm_lda 0 <| mm_get [7, 20, 0] <| mm_cst (.int (-2)) <| mm_icm .ne 1 J <| mm_cst (.int 1) <| mm_go 2 J
  | 1 => mm_cst (.int 2) <| mm_go 2 J
  | 2 => mm_cav 108 2 7 C <| mm_rtv Q
  | _ => fun _ _ _ _ => False
def pp_X7_odd : Nat → Nat
  | 0 => 0
  | 1 => 14
  | 2 => 15
  | _ => 0
/-- 110 HiddenSumsModel.take -/
def pb_X7_take (J : mm_J) (C : mm_C) (Q : mm_Q) : mm_J := fun t => match t with
  | 0 => mm_lda 0 <| mm_dup <| mm_get [7, 22, 0] <| mm_cst (.int 1) <| mm_ii (fun x y => x + y) <| mm_put [7, 22, 0] <| mm_lda 0 <| mm_get [7, 22, 0] <| mm_cst (.int 60) <| mm_icm .le 1 J <| mm_lda 0 <| mm_cst (.int 3) <| mm_cav 108 2 7 C <| mm_go 1 J
  | 1 => mm_lda 0 <| mm_get [7, 23, 0] <| mm_ifc .ne 2 J <| mm_lda 0 <| mm_cav 107 1 7 C <| mm_go 2 J
  | 2 => mm_rtv Q
  | _ => fun _ _ _ _ => False
def pp_X7_take : Nat → Nat
  | 0 => 0
  | 1 => 24
  | 2 => 35
  | _ => 0
/-- 111 HiddenSumsModel.isSign -/
def pb_X7_isSign (J : mm_J) (C : mm_C) (Q : mm_Q) : mm_J := fun t => match t with
  | 0 => mm_lda 0 <| mm_get [7, 23, 0] <| mm_ifc .ne 1 J <| mm_lda 0 <| mm_get [7, 20, 0] <| mm_cst (.int (-100)) <| mm_ldi 1 <| mm_ii (fun x y => x - y) <| mm_icm .ne 1 J <| mm_cst (.int 1) <| mm_go 2 J
  | 1 => mm_cst (.int 0) <| mm_go 2 J
  | 2 => mm_rtz Q
  | _ => fun _ _ _ _ => False
def pp_X7_isSign : Nat → Nat
  | 0 => 0
  | 1 => 22
  | 2 => 23
  | _ => 0
/-- 112 HiddenSumsModel.put -/
def pb_X7_put (J : mm_J) (C : mm_C) (Q : mm_Q) : mm_J := fun t => match t with
  | 0 => mm_lda 0 <| mm_get [7, 23, 0] <| mm_ifc .ne 1 J <| mm_lda 0 <| mm_get [7, 7, 2] <| mm_cst (.int 576) <| mm_lda 0 <| mm_get [7, 26, 0] <| mm_ii (fun x y => x + y) <| mm_ldi 1 <| mm_ast .int (fun x => x) <| mm_lda 0 <| mm_dup <| mm_get [7, 26, 0] <| mm_cst (.int 1) <| mm_ii (fun x y => x + y) <| mm_put [7, 26, 0] <| mm_go 1 J
  | 1 => mm_rtv Q
  | _ => fun _ _ _ _ => False
def pp_X7_put : Nat → Nat
  | 0 => 0
  | 1 => 31
  | _ => 0
/-- 113 HiddenSumsModel.opens -/
def pb_X7_opens (J : mm_J) (C : mm_C) (Q : mm_Q) : mm_J := fun t => match t with
  | 0 => mm_lda 0 <| mm_get [7, 25, 0] <| mm_cst (.int 12) <| mm_icm .ne 1 J <| mm_lda 0 <| mm_cst (.int 3) <| mm_cav 108 2 7 C <| mm_go 1 J
  | 1 => mm_lda 0 <| mm_dup <| mm_get [7, 25, 0] <| mm_cst (.int 1) <| mm_ii (fun x y => x + y) <| mm_put [7, 25, 0] <| mm_rtv Q
  | _ => fun _ _ _ _ => False
def pp_X7_opens : Nat → Nat
  | 0 => 0
  | 1 => 14
  | _ => 0
/-- 114 HiddenSumsModel.any -/
def pb_X7_any (J : mm_J) (C : mm_C) (Q : mm_Q) : mm_J := fun t => match t with
  | 0 => mm_lda 0 <| mm_cav 115 1 7 C <| mm_go 1 J
  | 1 => mm_lda 0 <| mm_get [7, 23, 0] <| mm_ifc .ne 2 J <| mm_lda 0 <| mm_get [7, 20, 0] <| mm_cst (.int (-4)) <| mm_icm .ne 2 J <| mm_lda 0 <| mm_cav 110 1 7 C <| mm_lda 0 <| mm_cav 115 1 7 C <| mm_lda 0 <| mm_cst (.int (-4)) <| mm_cav 112 2 7 C <| mm_go 1 J
  | 2 => mm_rtv Q
  | _ => fun _ _ _ _ => False
def pp_X7_any : Nat → Nat
  | 0 => 0
  | 1 => 4
  | 2 => 37
  | _ => 0
/-- 115 HiddenSumsModel.all -/
def pb_X7_all (J : mm_J) (C : mm_C) (Q : mm_Q) : mm_J := fun t => match t with
  | 0 => mm_lda 0 <| mm_cav 116 1 7 C <| mm_go 1 J
  | 1 => mm_lda 0 <| mm_get [7, 23, 0] <| mm_ifc .ne 2 J <| mm_lda 0 <| mm_get [7, 20, 0] <| mm_cst (.int (-3)) <| mm_icm .ne 2 J <| mm_lda 0 <| mm_cav 110 1 7 C <| mm_lda 0 <| mm_cav 116 1 7 C <| mm_lda 0 <| mm_cst (.int (-3)) <| mm_cav 112 2 7 C <| mm_go 1 J
  | 2 => mm_rtv Q
  | _ => fun _ _ _ _ => False
def pp_X7_all : Nat → Nat
  | 0 => 0
  | 1 => 4
  | 2 => 37
  | _ => 0
/-- 116 HiddenSumsModel.one -/
def pb_X7_one (J : mm_J) (C : mm_C) (Q : mm_Q) : mm_J := fun t => match t with
  | 0 => mm_lda 0 <| mm_get [7, 23, 0] <| mm_ifc .eq 1 J <| mm_rtv Q
  | 1 => mm_lda 0 <| mm_get [7, 20, 0] <| mm_cst (.int (-5)) <| mm_icm .ne 2 J <| mm_lda 0 <| mm_cav 113 1 7 C <| mm_lda 0 <| mm_cav 110 1 7 C <| mm_lda 0 <| mm_cav 116 1 7 C <| mm_lda 0 <| mm_cst (.int (-5)) <| mm_cav 112 2 7 C <| mm_lda 0 <| mm_dup <| mm_get [7, 25, 0] <| mm_cst (.int 1) <| mm_ii (fun x y => x - y) <| mm_put [7, 25, 0] <| mm_go 10 J
  | 2 => mm_lda 0 <| mm_get [7, 20, 0] <| mm_cst (.int (-6)) <| mm_icm .eq 3 J <| mm_lda 0 <| mm_get [7, 20, 0] <| mm_cst (.int (-7)) <| mm_icm .ne 4 J <| mm_go 3 J
  | 3 => mm_lda 0 <| mm_get [7, 20, 0] <| mm_sti 1 <| mm_lda 0 <| mm_cav 110 1 7 C <| mm_lda 0 <| mm_ldi 1 <| mm_cav 112 2 7 C <| mm_go 10 J
  | 4 => mm_lda 0 <| mm_cst (.int 40) <| mm_cav 111 2 7 C <| mm_ifc .eq 7 J <| mm_lda 0 <| mm_cav 113 1 7 C <| mm_lda 0 <| mm_cav 110 1 7 C <| mm_lda 0 <| mm_cav 114 1 7 C <| mm_lda 0 <| mm_cst (.int 41) <| mm_cav 111 2 7 C <| mm_ifc .eq 5 J <| mm_lda 0 <| mm_cav 110 1 7 C <| mm_go 6 J
  | 5 => mm_lda 0 <| mm_get [7, 23, 0] <| mm_ifc .ne 6 J <| mm_lda 0 <| mm_cav 109 1 7 C <| mm_go 6 J
  | 6 => mm_lda 0 <| mm_dup <| mm_get [7, 25, 0] <| mm_cst (.int 1) <| mm_ii (fun x y => x - y) <| mm_put [7, 25, 0] <| mm_go 10 J
  | 7 => mm_lda 0 <| mm_cav 117 1 7 C <| mm_lda 0 <| mm_get [7, 20, 0] <| mm_sti 1 <| mm_lda 0 <| mm_cst (.int 60) <| mm_cav 111 2 7 C <| mm_ifc .ne 8 J <| mm_lda 0 <| mm_cst (.int 61) <| mm_cav 111 2 7 C <| mm_ifc .ne 8 J <| mm_lda 0 <| mm_cst (.int 62) <| mm_cav 111 2 7 C <| mm_ifc .eq 9 J <| mm_go 8 J
  | 8 => mm_lda 0 <| mm_cav 110 1 7 C <| mm_lda 0 <| mm_cav 117 1 7 C <| mm_lda 0 <| mm_ldi 1 <| mm_cav 112 2 7 C <| mm_go 10 J
  | 9 => mm_lda 0 <| mm_get [7, 23, 0] <| mm_ifc .ne 10 J <| mm_lda 0 <| mm_cav 109 1 7 C <| mm_go 10 J
  | 10 => mm_rtv Q
  | _ => fun _ _ _ _ => False
def pp_X7_one : Nat → Nat
  | 0 => 0
  | 1 => 8
  | 2 => 48
  | 3 => 66
  | 4 => 83
  | 5 => 120
  | 6 => 131
  | 7 => 144
  | 8 => 180
  | 9 => 196
  | 10 => 207
  | _ => 0
/-- 117 HiddenSumsModel.sum -/
def pb_X7_sum (J : mm_J) (C : mm_C) (Q : mm_Q) : mm_J := fun t => match t with
  | 0 => mm_lda 0 <| mm_cav 118 1 7 C <| mm_go 1 J
  | 1 => mm_lda 0 <| mm_cst (.int 43) <| mm_cav 111 2 7 C <| mm_ifc .ne 2 J <| mm_lda 0 <| mm_cst (.int 45) <| mm_cav 111 2 7 C <| mm_ifc .eq 3 J <| mm_go 2 J
  | 2 => mm_lda 0 <| mm_get [7, 20, 0] <| mm_sti 1 <| mm_lda 0 <| mm_cav 110 1 7 C <| mm_lda 0 <| mm_cav 118 1 7 C <| mm_lda 0 <| mm_ldi 1 <| mm_cav 112 2 7 C <| mm_go 1 J
  | 3 => mm_rtv Q
  | _ => fun _ _ _ _ => False
def pp_X7_sum : Nat → Nat
  | 0 => 0
  | 1 => 4
  | 2 => 22
  | 3 => 43
  | _ => 0
/-- 118 HiddenSumsModel.times -/
def pb_X7_times (J : mm_J) (C : mm_C) (Q : mm_Q) : mm_J := fun t => match t with
  | 0 => mm_lda 0 <| mm_cav 119 1 7 C <| mm_go 1 J
  | 1 => mm_lda 0 <| mm_cst (.int 42) <| mm_cav 111 2 7 C <| mm_ifc .ne 2 J <| mm_lda 0 <| mm_cst (.int 47) <| mm_cav 111 2 7 C <| mm_ifc .eq 3 J <| mm_go 2 J
  | 2 => mm_lda 0 <| mm_get [7, 20, 0] <| mm_sti 1 <| mm_lda 0 <| mm_cav 110 1 7 C <| mm_lda 0 <| mm_cav 119 1 7 C <| mm_lda 0 <| mm_ldi 1 <| mm_cav 112 2 7 C <| mm_go 1 J
  | 3 => mm_rtv Q
  | _ => fun _ _ _ _ => False
def pp_X7_times : Nat → Nat
  | 0 => 0
  | 1 => 4
  | 2 => 22
  | 3 => 43
  | _ => 0
/-- 119 HiddenSumsModel.leaf -/
def pb_X7_leaf (J : mm_J) (C : mm_C) (Q : mm_Q) : mm_J := fun t => match t with
  | 0 => mm_cst (.int 0) <| mm_sti 1 <| mm_go 1 J
  | 1 => mm_lda 0 <| mm_cst (.int 45) <| mm_cav 111 2 7 C <| mm_ifc .eq 2 J <| mm_inc 1 (.int 1) <| mm_lda 0 <| mm_cav 110 1 7 C <| mm_go 1 J
  | 2 => mm_lda 0 <| mm_get [7, 23, 0] <| mm_ifc .eq 3 J <| mm_rtv Q
  | 3 => mm_lda 0 <| mm_get [7, 20, 0] <| mm_ifc .ge 4 J <| mm_lda 0 <| mm_get [7, 20, 0] <| mm_cst (.int (-20)) <| mm_icm .gt 7 J <| mm_lda 0 <| mm_get [7, 20, 0] <| mm_cst (.int (-24)) <| mm_icm .le 7 J <| mm_go 4 J
  | 4 => mm_lda 0 <| mm_get [7, 20, 0] <| mm_sti 2 <| mm_lda 0 <| mm_cav 110 1 7 C <| mm_lda 0 <| mm_ldi 2 <| mm_cav 112 2 7 C <| mm_cst (.int 0) <| mm_sti 3 <| mm_go 5 J
  | 5 => mm_ldi 3 <| mm_ldi 1 <| mm_icm .ge 6 J <| mm_lda 0 <| mm_cst (.int (-30)) <| mm_cav 112 2 7 C <| mm_inc 3 (.int 1) <| mm_go 5 J
  | 6 => mm_go 8 J
  | 7 => mm_lda 0 <| mm_cav 109 1 7 C <| mm_go 8 J
  | 8 => mm_rtv Q
  | _ => fun _ _ _ _ => False
def pp_X7_leaf : Nat → Nat
  | 0 => 0
  | 1 => 2
  | 2 => 21
  | 3 => 29
  | 4 => 54
  | 5 => 70
  | 6 => 87
  | 7 => 90
  | 8 => 94
  | _ => 0
/-- 120 HiddenSumsModel.reads -/
def pb_X7_reads (J : mm_J) (C : mm_C) (Q : mm_Q) : mm_J := fun t => match t with
  | 0 => mm_lda 0 <| mm_cst (.int 0) <| mm_put [7, 19, 0] <| mm_lda 0 <| mm_cst (.int 0) <| mm_put [7, 22, 0] <| mm_lda 0 <| mm_cst (.int 0) <| mm_put [7, 23, 0] <| mm_lda 0 <| mm_cst (.int 0) <| mm_put [7, 25, 0] <| mm_lda 0 <| mm_cst (.int 0) <| mm_put [7, 26, 0] <| mm_lda 0 <| mm_cav 107 1 7 C <| mm_lda 0 <| mm_cav 114 1 7 C <| mm_lda 0 <| mm_get [7, 23, 0] <| mm_ifc .ne 1 J <| mm_lda 0 <| mm_get [7, 20, 0] <| mm_cst (.int (-1)) <| mm_icm .eq 1 J <| mm_lda 0 <| mm_cav 109 1 7 C <| mm_go 1 J
  | 1 => mm_lda 0 <| mm_cst (.int 0) <| mm_put [7, 5, 0] <| mm_lda 0 <| mm_lda 0 <| mm_get [7, 23, 0] <| mm_ifc .ne 2 J <| mm_cst (.int (-1)) <| mm_go 3 J
  | 2 => mm_lda 0 <| mm_get [7, 24, 0] <| mm_go 3 J
  | 3 => mm_put [7, 6, 0] <| mm_lda 0 <| mm_get [7, 8, 2] <| mm_cst (.int 9) <| mm_lda 0 <| mm_get [7, 26, 0] <| mm_ast .int (fun x => x) <| mm_lda 0 <| mm_get [7, 23, 0] <| mm_ifc .ne 4 J <| mm_cst (.int 1) <| mm_go 5 J
  | 4 => mm_cst (.int 0) <| mm_go 5 J
  | 5 => mm_rtz Q
  | _ => fun _ _ _ _ => False
def pp_X7_reads : Nat → Nat
  | 0 => 0
  | 1 => 52
  | 2 => 69
  | 3 => 73
  | 4 => 98
  | 5 => 99
  | _ => 0
/-- 121 HiddenSumsModel.keep -/
def pb_X7_keep (J : mm_J) (C : mm_C) (Q : mm_Q) : mm_J := fun t => match t with
  | 0 => mm_cst (.int 0) <| mm_sti 2 <| mm_go 1 J
  | 1 => mm_ldi 2 <| mm_lda 0 <| mm_get [7, 8, 2] <| mm_cst (.int 9) <| mm_ald .int <| mm_icm .ge 2 J <| mm_lda 0 <| mm_get [7, 7, 2] <| mm_cst (.int 64) <| mm_ldi 1 <| mm_ii (fun x y => x * y) <| mm_ldi 2 <| mm_ii (fun x y => x + y) <| mm_lda 0 <| mm_get [7, 7, 2] <| mm_cst (.int 576) <| mm_ldi 2 <| mm_ii (fun x y => x + y) <| mm_ald .int <| mm_ast .int (fun x => x) <| mm_inc 2 (.int 1) <| mm_go 1 J
  | 2 => mm_lda 0 <| mm_get [7, 8, 2] <| mm_ldi 1 <| mm_lda 0 <| mm_get [7, 8, 2] <| mm_cst (.int 9) <| mm_ald .int <| mm_ast .int (fun x => x) <| mm_rtv Q
  | _ => fun _ _ _ _ => False
def pp_X7_keep : Nat → Nat
  | 0 => 0
  | 1 => 2
  | 2 => 40
  | _ => 0
/-- 122 HiddenSumsModel.place -/
def pb_X7_place (J : mm_J) (C : mm_C) (Q : mm_Q) : mm_J := fun t => match t with
  | 0 => mm_lda 0 <| mm_cst (.int 0) <| mm_put [7, 0, 0] <| mm_lda 0 <| mm_get [7, 6, 0] <| mm_ret Q
  | _ => fun _ _ _ _ => False
def pp_X7_place : Nat → Nat
  | 0 => 0
  | _ => 0
/-- 123 HiddenSumsModel.what -/
def pb_X7_what (J : mm_J) (C : mm_C) (Q : mm_Q) : mm_J := fun t => match t with
  | 0 => mm_cst (.int 0) <| mm_sti 3 <| mm_cst (.int 0) <| mm_sti 4 <| mm_go 1 J
  | 1 => mm_ldi 4 <| mm_lda 0 <| mm_get [7, 8, 2] <| mm_ldi 1 <| mm_ald .int <| mm_icm .ge 13 J <| mm_lda 0 <| mm_get [7, 7, 2] <| mm_cst (.int 64) <| mm_ldi 1 <| mm_ii (fun x y => x * y) <| mm_ldi 4 <| mm_ii (fun x y => x + y) <| mm_ald .int <| mm_sti 5 <| mm_ldi 5 <| mm_ifc .ge 2 J <| mm_ldi 5 <| mm_cst (.int (-20)) <| mm_icm .gt 5 J <| mm_ldi 5 <| mm_cst (.int (-24)) <| mm_icm .le 5 J <| mm_go 2 J
  | 2 => mm_lda 0 <| mm_get [7, 27, 2] <| mm_ldi 3 <| mm_ldi 5 <| mm_ifc .lt 3 J <| mm_ldi 5 <| mm_i2l <| mm_go 4 J
  | 3 => mm_lda 0 <| mm_get [7, 3, 2] <| mm_cst (.int 4) <| mm_ldi 2 <| mm_ii (fun x y => x * y) <| mm_cst (.int (-20)) <| mm_ii (fun x y => x + y) <| mm_ldi 5 <| mm_ii (fun x y => x - y) <| mm_ald .int <| mm_i2l <| mm_go 4 J
  | 4 => mm_lst <| mm_lda 0 <| mm_get [7, 28, 2] <| mm_ldi 3 <| mm_cst (.int 0) <| mm_ast .boolean (vp_nar .boolean) <| mm_inc 3 (.int 1) <| mm_go 12 J
  | 5 => mm_ldi 5 <| mm_cst (.int (-6)) <| mm_icm .eq 6 J <| mm_ldi 5 <| mm_cst (.int (-7)) <| mm_icm .ne 9 J <| mm_go 6 J
  | 6 => mm_lda 0 <| mm_get [7, 27, 2] <| mm_ldi 3 <| mm_ldi 5 <| mm_cst (.int (-6)) <| mm_icm .ne 7 J <| mm_cst (.long 1) <| mm_go 8 J
  | 7 => mm_cst (.long 0) <| mm_go 8 J
  | 8 => mm_lst <| mm_lda 0 <| mm_get [7, 28, 2] <| mm_ldi 3 <| mm_cst (.int 0) <| mm_ast .boolean (vp_nar .boolean) <| mm_inc 3 (.int 1) <| mm_go 12 J
  | 9 => mm_ldi 5 <| mm_cst (.int (-30)) <| mm_icm .ne 10 J <| mm_lda 0 <| mm_get [7, 27, 2] <| mm_ldi 3 <| mm_cst (.int 1) <| mm_ii (fun x y => x - y) <| mm_lda 0 <| mm_get [7, 27, 2] <| mm_ldi 3 <| mm_cst (.int 1) <| mm_ii (fun x y => x - y) <| mm_lld <| mm_l1 (fun x => -x) <| mm_lst <| mm_go 12 J
  | 10 => mm_ldi 5 <| mm_cst (.int (-5)) <| mm_icm .ne 11 J <| mm_lda 0 <| mm_get [7, 27, 2] <| mm_ldi 3 <| mm_cst (.int 1) <| mm_ii (fun x y => x - y) <| mm_cst (.long 1) <| mm_lda 0 <| mm_get [7, 27, 2] <| mm_ldi 3 <| mm_cst (.int 1) <| mm_ii (fun x y => x - y) <| mm_lld <| mm_ll (fun x y => x - y) <| mm_lst <| mm_go 12 J
  | 11 => mm_inc 3 (.int (-1)) <| mm_lda 0 <| mm_ldi 5 <| mm_ldi 3 <| mm_cst (.int 1) <| mm_ii (fun x y => x - y) <| mm_cav 124 3 7 C <| mm_go 12 J
  | 12 => mm_inc 4 (.int 1) <| mm_go 1 J
  | 13 => mm_lda 0 <| mm_get [7, 28, 2] <| mm_cst (.int 0) <| mm_ald .boolean <| mm_ifc .eq 14 J <| mm_cst (.int 2) <| mm_go 15 J
  | 14 => mm_lda 0 <| mm_get [7, 27, 2] <| mm_cst (.int 0) <| mm_lld <| mm_l2i <| mm_go 15 J
  | 15 => mm_ret Q
  | _ => fun _ _ _ _ => False
def pp_X7_what : Nat → Nat
  | 0 => 0
  | 1 => 5
  | 2 => 49
  | 3 => 65
  | 4 => 80
  | 5 => 94
  | 6 => 108
  | 7 => 124
  | 8 => 125
  | 9 => 139
  | 10 => 166
  | 11 => 194
  | 12 => 206
  | 13 => 212
  | 14 => 225
  | 15 => 232
  | _ => 0
/-- 124 HiddenSumsModel.join -/
def pb_X7_join (J : mm_J) (C : mm_C) (Q : mm_Q) : mm_J := fun t => match t with
  | 0 => mm_lda 0 <| mm_get [7, 27, 2] <| mm_ldi 2 <| mm_lld <| mm_stl 3 <| mm_lda 0 <| mm_get [7, 27, 2] <| mm_ldi 2 <| mm_cst (.int 1) <| mm_ii (fun x y => x + y) <| mm_lld <| mm_stl 5 <| mm_lda 0 <| mm_get [7, 28, 2] <| mm_ldi 2 <| mm_ald .boolean <| mm_ifc .ne 1 J <| mm_lda 0 <| mm_get [7, 28, 2] <| mm_ldi 2 <| mm_cst (.int 1) <| mm_ii (fun x y => x + y) <| mm_ald .boolean <| mm_ifc .eq 2 J <| mm_go 1 J
  | 1 => mm_cst (.int 1) <| mm_go 3 J
  | 2 => mm_cst (.int 0) <| mm_go 3 J
  | 3 => mm_sti 7 <| mm_ldi 1 <| mm_cst (.int (-3)) <| mm_icm .eq 4 J <| mm_ldi 1 <| mm_cst (.int (-4)) <| mm_icm .ne 15 J <| mm_go 4 J
  | 4 => mm_ldi 1 <| mm_cst (.int (-4)) <| mm_icm .ne 5 J <| mm_cst (.long 1) <| mm_go 6 J
  | 5 => mm_cst (.long 0) <| mm_go 6 J
  | 6 => mm_stl 8 <| mm_lda 0 <| mm_get [7, 28, 2] <| mm_ldi 2 <| mm_ald .boolean <| mm_ifc .ne 7 J <| mm_ldl 3 <| mm_ldl 8 <| mm_cmp <| mm_ifc .eq 8 J <| mm_go 7 J
  | 7 => mm_lda 0 <| mm_get [7, 28, 2] <| mm_ldi 2 <| mm_cst (.int 1) <| mm_ii (fun x y => x + y) <| mm_ald .boolean <| mm_ifc .ne 9 J <| mm_ldl 5 <| mm_ldl 8 <| mm_cmp <| mm_ifc .ne 9 J <| mm_go 8 J
  | 8 => mm_cst (.int 1) <| mm_go 10 J
  | 9 => mm_cst (.int 0) <| mm_go 10 J
  | 10 => mm_sti 10 <| mm_lda 0 <| mm_get [7, 27, 2] <| mm_ldi 2 <| mm_ldi 10 <| mm_ifc .eq 11 J <| mm_ldl 8 <| mm_go 12 J
  | 11 => mm_cst (.long 1) <| mm_ldl 8 <| mm_ll (fun x y => x - y) <| mm_go 12 J
  | 12 => mm_lst <| mm_lda 0 <| mm_get [7, 28, 2] <| mm_ldi 2 <| mm_ldi 10 <| mm_ifc .ne 13 J <| mm_ldi 7 <| mm_ifc .eq 13 J <| mm_cst (.int 1) <| mm_go 14 J
  | 13 => mm_cst (.int 0) <| mm_go 14 J
  | 14 => mm_ast .boolean (vp_nar .boolean) <| mm_rtv Q
  | 15 => mm_cst (.int (-100)) <| mm_ldi 1 <| mm_ii (fun x y => x - y) <| mm_sti 8 <| mm_lda 0 <| mm_get [7, 28, 2] <| mm_ldi 2 <| mm_ldi 7 <| mm_ifc .ne 16 J <| mm_ldi 8 <| mm_cst (.int 47) <| mm_icm .ne 17 J <| mm_ldl 5 <| mm_cst (.long 0) <| mm_cmp <| mm_ifc .ne 17 J <| mm_go 16 J
  | 16 => mm_cst (.int 1) <| mm_go 18 J
  | 17 => mm_cst (.int 0) <| mm_go 18 J
  | 18 => mm_ast .boolean (vp_nar .boolean) <| mm_lda 0 <| mm_get [7, 28, 2] <| mm_ldi 2 <| mm_ald .boolean <| mm_ifc .eq 19 J <| mm_lda 0 <| mm_get [7, 27, 2] <| mm_ldi 2 <| mm_cst (.long 0) <| mm_lst <| mm_go 30 J
  | 19 => mm_lda 0 <| mm_get [7, 27, 2] <| mm_ldi 2 <| mm_ldi 8 <| mm_cst (.int 43) <| mm_icm .ne 20 J <| mm_ldl 3 <| mm_ldl 5 <| mm_ll (fun x y => x + y) <| mm_go 29 J
  | 20 => mm_ldi 8 <| mm_cst (.int 45) <| mm_icm .ne 21 J <| mm_ldl 3 <| mm_ldl 5 <| mm_ll (fun x y => x - y) <| mm_go 29 J
  | 21 => mm_ldi 8 <| mm_cst (.int 42) <| mm_icm .ne 22 J <| mm_ldl 3 <| mm_ldl 5 <| mm_ll (fun x y => x * y) <| mm_go 29 J
  | 22 => mm_ldi 8 <| mm_cst (.int 47) <| mm_icm .ne 23 J <| mm_ldl 3 <| mm_ldl 5 <| mm_ld (fun x y => x / y) <| mm_go 29 J
  | 23 => mm_ldi 8 <| mm_cst (.int 60) <| mm_icm .ne 25 J <| mm_ldl 3 <| mm_ldl 5 <| mm_cmp <| mm_ifc .ge 24 J <| mm_cst (.long 1) <| mm_go 29 J
  | 24 => mm_cst (.long 0) <| mm_go 29 J
  | 25 => mm_ldi 8 <| mm_cst (.int 61) <| mm_icm .ne 27 J <| mm_ldl 3 <| mm_ldl 5 <| mm_cmp <| mm_ifc .ne 26 J <| mm_cst (.long 1) <| mm_go 29 J
  | 26 => mm_cst (.long 0) <| mm_go 29 J
  | 27 => mm_ldl 3 <| mm_ldl 5 <| mm_cmp <| mm_ifc .le 28 J <| mm_cst (.long 1) <| mm_go 29 J
  | 28 => mm_cst (.long 0) <| mm_go 29 J
  | 29 => mm_lst <| mm_go 30 J
  | 30 => mm_rtv Q
  | _ => fun _ _ _ _ => False
def pp_X7_join : Nat → Nat
  | 0 => 0
  | 1 => 37
  | 2 => 41
  | 3 => 42
  | 4 => 56
  | 5 => 66
  | 6 => 67
  | 7 => 85
  | 8 => 104
  | 9 => 108
  | 10 => 109
  | 11 => 126
  | 12 => 130
  | 13 => 150
  | 14 => 151
  | 15 => 153
  | 16 => 183
  | 17 => 187
  | 18 => 188
  | 19 => 208
  | 20 => 227
  | 21 => 241
  | 22 => 255
  | 23 => 269
  | 24 => 287
  | 25 => 291
  | 26 => 309
  | 27 => 313
  | 28 => 324
  | 29 => 325
  | 30 => 326
  | _ => 0
/-- 125 HiddenSumsModel.isSeen -/
def pb_X7_isSeen (J : mm_J) (C : mm_C) (Q : mm_Q) : mm_J := fun t => match t with
  | 0 => mm_lda 0 <| mm_cst (.int 2) <| mm_ldi 1 <| mm_ii (fun x y => x * y) <| mm_ldi 2 <| mm_cav 123 3 7 C <| mm_cst (.int 1) <| mm_icm .ne 1 J <| mm_cst (.int 1) <| mm_go 2 J
  | 1 => mm_cst (.int 0) <| mm_go 2 J
  | 2 => mm_rtz Q
  | _ => fun _ _ _ _ => False
def pp_X7_isSeen : Nat → Nat
  | 0 => 0
  | 1 => 16
  | 2 => 17
  | _ => 0
/-- 126 HiddenSumsModel.isClosed -/
def pb_X7_isClosed (J : mm_J) (C : mm_C) (Q : mm_Q) : mm_J := fun t => match t with
  | 0 => mm_lda 0 <| mm_get [7, 9, 2] <| mm_ldi 1 <| mm_ald .int <| mm_ldi 2 <| mm_ii (fun x y => x >>> (y &&& 31)) <| mm_cst (.int 1) <| mm_ii (fun x y => x &&& y) <| mm_cst (.int 1) <| mm_icm .ne 1 J <| mm_cst (.int 1) <| mm_go 2 J
  | 1 => mm_cst (.int 0) <| mm_go 2 J
  | 2 => mm_rtz Q
  | _ => fun _ _ _ _ => False
def pp_X7_isClosed : Nat → Nat
  | 0 => 0
  | 1 => 18
  | 2 => 19
  | _ => 0
/-- 127 HiddenSumsModel.isHidden -/
def pb_X7_isHidden (J : mm_J) (C : mm_C) (Q : mm_Q) : mm_J := fun t => match t with
  | 0 => mm_lda 0 <| mm_ldi 1 <| mm_ldi 2 <| mm_cav 126 3 7 C <| mm_ifc .ne 1 J <| mm_lda 0 <| mm_ldi 1 <| mm_ldi 3 <| mm_cav 125 3 7 C <| mm_ifc .ne 2 J <| mm_go 1 J
  | 1 => mm_cst (.int 1) <| mm_go 3 J
  | 2 => mm_cst (.int 0) <| mm_go 3 J
  | 3 => mm_rtz Q
  | _ => fun _ _ _ _ => False
def pp_X7_isHidden : Nat → Nat
  | 0 => 0
  | 1 => 18
  | 2 => 22
  | 3 => 23
  | _ => 0
/-- 128 HiddenSumsModel.isBarred -/
def pb_X7_isBarred (J : mm_J) (C : mm_C) (Q : mm_Q) : mm_J := fun t => match t with
  | 0 => mm_cst (.int 0) <| mm_sti 3 <| mm_go 1 J
  | 1 => mm_ldi 3 <| mm_lda 0 <| mm_get [7, 8, 2] <| mm_ldi 2 <| mm_ald .int <| mm_icm .ge 3 J <| mm_lda 0 <| mm_get [7, 7, 2] <| mm_cst (.int 64) <| mm_ldi 2 <| mm_ii (fun x y => x * y) <| mm_ldi 3 <| mm_ii (fun x y => x + y) <| mm_ald .int <| mm_sti 4 <| mm_ldi 4 <| mm_cst (.int (-20)) <| mm_icm .gt 2 J <| mm_ldi 4 <| mm_cst (.int (-24)) <| mm_icm .le 2 J <| mm_lda 0 <| mm_ldi 1 <| mm_cst (.int (-20)) <| mm_ldi 4 <| mm_ii (fun x y => x - y) <| mm_cav 126 3 7 C <| mm_ifc .eq 2 J <| mm_cst (.int 1) <| mm_rtz Q
  | 2 => mm_inc 3 (.int 1) <| mm_go 1 J
  | 3 => mm_cst (.int 0) <| mm_rtz Q
  | _ => fun _ _ _ _ => False
def pp_X7_isBarred : Nat → Nat
  | 0 => 0
  | 1 => 2
  | 2 => 54
  | 3 => 60
  | _ => 0
/-- 129 HiddenSumsModel.matches -/
def pb_X7_matches (J : mm_J) (C : mm_C) (Q : mm_Q) : mm_J := fun t => match t with
  | 0 => mm_lda 0 <| mm_ldi 1 <| mm_ldi 3 <| mm_cav 125 3 7 C <| mm_ifc .eq 1 J <| mm_lda 0 <| mm_ldi 2 <| mm_ldi 3 <| mm_cav 123 3 7 C <| mm_cst (.int 1) <| mm_icm .ne 1 J <| mm_cst (.int 1) <| mm_go 2 J
  | 1 => mm_cst (.int 0) <| mm_go 2 J
  | 2 => mm_rtz Q
  | _ => fun _ _ _ _ => False
def pp_X7_matches : Nat → Nat
  | 0 => 0
  | 1 => 23
  | 2 => 24
  | _ => 0
/-- 130 HiddenSumsModel.count -/
def pb_X7_count (J : mm_J) (C : mm_C) (Q : mm_Q) : mm_J := fun t => match t with
  | 0 => mm_cst (.int 0) <| mm_sti 3 <| mm_cst (.int 0) <| mm_sti 4 <| mm_go 1 J
  | 1 => mm_ldi 4 <| mm_lda 0 <| mm_get [7, 1, 0] <| mm_icm .ge 8 J <| mm_lda 0 <| mm_cst (.int 2) <| mm_ldi 1 <| mm_ii (fun x y => x * y) <| mm_ldi 4 <| mm_cav 123 3 7 C <| mm_sti 5 <| mm_ldi 3 <| mm_ldi 2 <| mm_ifc .ne 3 J <| mm_ldi 5 <| mm_cst (.int 1) <| mm_icm .ne 2 J <| mm_cst (.int 1) <| mm_go 7 J
  | 2 => mm_cst (.int 0) <| mm_go 7 J
  | 3 => mm_ldi 2 <| mm_cst (.int 1) <| mm_icm .ne 5 J <| mm_ldi 5 <| mm_cst (.int 1) <| mm_icm .eq 4 J <| mm_cst (.int 1) <| mm_go 7 J
  | 4 => mm_cst (.int 0) <| mm_go 7 J
  | 5 => mm_ldi 5 <| mm_cst (.int 2) <| mm_icm .ne 6 J <| mm_cst (.int 1) <| mm_go 7 J
  | 6 => mm_cst (.int 0) <| mm_go 7 J
  | 7 => mm_ii (fun x y => x + y) <| mm_sti 3 <| mm_inc 4 (.int 1) <| mm_go 1 J
  | 8 => mm_ldi 3 <| mm_ret Q
  | _ => fun _ _ _ _ => False
def pp_X7_count : Nat → Nat
  | 0 => 0
  | 1 => 5
  | 2 => 40
  | 3 => 44
  | 4 => 59
  | 5 => 63
  | 6 => 73
  | 7 => 74
  | 8 => 82
  | _ => 0
/-- 131 HiddenSumsModel.rule -/
def pb_X7_rule (J : mm_J) (C : mm_C) (Q : mm_Q) : mm_J := fun t => match t with
  | 0 => mm_lda 0 <| mm_cst (.int 0) <| mm_put [7, 0, 0] <| mm_lda 0 <| mm_ldi 1 <| mm_cav 97 2 7 C <| mm_ifc .ne 1 J <| mm_cst (.int (-1)) <| mm_ret Q
  | 1 => mm_lda 0 <| mm_cav 120 1 7 C <| mm_ifc .ne 2 J <| mm_cst (.int (-10)) <| mm_lda 0 <| mm_get [7, 23, 0] <| mm_ii (fun x y => x - y) <| mm_ret Q
  | 2 => mm_lda 0 <| mm_cst (.int 2) <| mm_ldi 1 <| mm_ii (fun x y => x * y) <| mm_cav 121 2 7 C <| mm_lda 0 <| mm_ldi 1 <| mm_cst (.int 0) <| mm_cav 130 3 7 C <| mm_ret Q
  | _ => fun _ _ _ _ => False
def pp_X7_rule : Nat → Nat
  | 0 => 0
  | 1 => 15
  | 2 => 30
  | _ => 0
/-- 132 HiddenSumsModel.close -/
def pb_X7_close (J : mm_J) (C : mm_C) (Q : mm_Q) : mm_J := fun t => match t with
  | 0 => mm_lda 0 <| mm_cst (.int 0) <| mm_put [7, 0, 0] <| mm_lda 0 <| mm_ldi 1 <| mm_cav 97 2 7 C <| mm_ifc .ne 1 J <| mm_cst (.int (-1)) <| mm_ret Q
  | 1 => mm_ldi 2 <| mm_ifc .lt 2 J <| mm_ldi 2 <| mm_cst (.int 15) <| mm_icm .le 3 J <| mm_go 2 J
  | 2 => mm_cst (.int (-2)) <| mm_ret Q
  | 3 => mm_lda 0 <| mm_get [7, 9, 2] <| mm_ldi 1 <| mm_ald .int <| mm_sti 3 <| mm_lda 0 <| mm_get [7, 9, 2] <| mm_ldi 1 <| mm_ldi 2 <| mm_ast .int (fun x => x) <| mm_ldi 3 <| mm_ret Q
  | _ => fun _ _ _ _ => False
def pp_X7_close : Nat → Nat
  | 0 => 0
  | 1 => 15
  | 2 => 25
  | 3 => 28
  | _ => 0
/-- 133 HiddenSumsModel.seen -/
def pb_X7_seen (J : mm_J) (C : mm_C) (Q : mm_Q) : mm_J := fun t => match t with
  | 0 => mm_lda 0 <| mm_cst (.int 0) <| mm_put [7, 0, 0] <| mm_lda 0 <| mm_ldi 1 <| mm_cav 97 2 7 C <| mm_ifc .ne 1 J <| mm_cst (.int (-1)) <| mm_ret Q
  | 1 => mm_ldi 2 <| mm_ifc .lt 2 J <| mm_ldi 2 <| mm_cst (.int 2) <| mm_icm .le 3 J <| mm_go 2 J
  | 2 => mm_cst (.int (-2)) <| mm_go 4 J
  | 3 => mm_lda 0 <| mm_ldi 1 <| mm_ldi 2 <| mm_cav 130 3 7 C <| mm_go 4 J
  | 4 => mm_ret Q
  | _ => fun _ _ _ _ => False
def pp_X7_seen : Nat → Nat
  | 0 => 0
  | 1 => 15
  | 2 => 24
  | 3 => 29
  | 4 => 35
  | _ => 0
/-- 134 HiddenSumsModel.note -/
def pb_X7_note (J : mm_J) (C : mm_C) (Q : mm_Q) : mm_J := fun t => match t with
  | 0 => mm_lda 0 <| mm_get [7, 12, 2] <| mm_cst (.int 5) <| mm_lda 0 <| mm_get [7, 13, 0] <| mm_ii (fun x y => x * y) <| mm_ldi 1 <| mm_ast .int (fun x => x) <| mm_lda 0 <| mm_get [7, 12, 2] <| mm_cst (.int 5) <| mm_lda 0 <| mm_get [7, 13, 0] <| mm_ii (fun x y => x * y) <| mm_cst (.int 1) <| mm_ii (fun x y => x + y) <| mm_ldi 2 <| mm_ast .int (fun x => x) <| mm_lda 0 <| mm_get [7, 12, 2] <| mm_cst (.int 5) <| mm_lda 0 <| mm_get [7, 13, 0] <| mm_ii (fun x y => x * y) <| mm_cst (.int 2) <| mm_ii (fun x y => x + y) <| mm_ldi 3 <| mm_ast .int (fun x => x) <| mm_lda 0 <| mm_get [7, 12, 2] <| mm_cst (.int 5) <| mm_lda 0 <| mm_get [7, 13, 0] <| mm_ii (fun x y => x * y) <| mm_cst (.int 3) <| mm_ii (fun x y => x + y) <| mm_ldi 4 <| mm_ast .int (fun x => x) <| mm_lda 0 <| mm_get [7, 12, 2] <| mm_cst (.int 5) <| mm_lda 0 <| mm_get [7, 13, 0] <| mm_ii (fun x y => x * y) <| mm_cst (.int 4) <| mm_ii (fun x y => x + y) <| mm_ldi 5 <| mm_ast .int (fun x => x) <| mm_lda 0 <| mm_dup <| mm_get [7, 13, 0] <| mm_cst (.int 1) <| mm_ii (fun x y => x + y) <| mm_put [7, 13, 0] <| mm_rtv Q
  | _ => fun _ _ _ _ => False
def pp_X7_note : Nat → Nat
  | 0 => 0
  | _ => 0
/-- 135 HiddenSumsModel.query -/
def pb_X7_query (J : mm_J) (C : mm_C) (Q : mm_Q) : mm_J := fun t => match t with
  | 0 => mm_lda 0 <| mm_cav 120 1 7 C <| mm_ifc .ne 1 J <| mm_lda 0 <| mm_ldi 1 <| mm_ldi 2 <| mm_cst (.int 0) <| mm_cst (.int 0) <| mm_cst (.int 3) <| mm_cav 134 6 7 C <| mm_cst (.int (-10)) <| mm_lda 0 <| mm_get [7, 23, 0] <| mm_ii (fun x y => x - y) <| mm_ret Q
  | 1 => mm_lda 0 <| mm_ldi 1 <| mm_cst (.int 9) <| mm_cav 128 3 7 C <| mm_ifc .eq 2 J <| mm_lda 0 <| mm_ldi 1 <| mm_ldi 2 <| mm_cst (.int 0) <| mm_cst (.int 0) <| mm_cst (.int 2) <| mm_cav 134 6 7 C <| mm_cst (.int (-6)) <| mm_ret Q
  | 2 => mm_lda 0 <| mm_ldi 1 <| mm_ldi 2 <| mm_cst (.int 0) <| mm_cst (.int 0) <| mm_cst (.int 0) <| mm_cav 134 6 7 C <| mm_cst (.int 0) <| mm_ret Q
  | _ => fun _ _ _ _ => False
def pp_X7_query : Nat → Nat
  | 0 => 0
  | 1 => 24
  | 2 => 46
  | _ => 0
/-- 136 HiddenSumsModel.ask -/
def pb_X7_ask (J : mm_J) (C : mm_C) (Q : mm_Q) : mm_J := fun t => match t with
  | 0 => mm_lda 0 <| mm_cst (.int 0) <| mm_put [7, 0, 0] <| mm_lda 0 <| mm_ldi 1 <| mm_cav 97 2 7 C <| mm_ifc .ne 1 J <| mm_cst (.int (-1)) <| mm_ret Q
  | 1 => mm_lda 0 <| mm_get [7, 13, 0] <| mm_cst (.int 150) <| mm_icm .ne 2 J <| mm_cst (.int (-4)) <| mm_ret Q
  | 2 => mm_lda 0 <| mm_ldi 1 <| mm_cst (.int 0) <| mm_cav 135 3 7 C <| mm_sti 2 <| mm_ldi 2 <| mm_ifc .eq 3 J <| mm_ldi 2 <| mm_ret Q
  | 3 => mm_lda 0 <| mm_cst (.int 0) <| mm_put [7, 15, 0] <| mm_cst (.int 0) <| mm_sti 3 <| mm_go 4 J
  | 4 => mm_ldi 3 <| mm_lda 0 <| mm_get [7, 1, 0] <| mm_icm .ge 6 J <| mm_lda 0 <| mm_ldi 1 <| mm_cst (.int 9) <| mm_ldi 3 <| mm_cav 129 4 7 C <| mm_ifc .eq 5 J <| mm_lda 0 <| mm_get [7, 14, 2] <| mm_lda 0 <| mm_get [7, 15, 0] <| mm_ldi 3 <| mm_ast .int (fun x => x) <| mm_lda 0 <| mm_dup <| mm_get [7, 15, 0] <| mm_cst (.int 1) <| mm_ii (fun x y => x + y) <| mm_put [7, 15, 0] <| mm_go 5 J
  | 5 => mm_inc 3 (.int 1) <| mm_go 4 J
  | 6 => mm_lda 0 <| mm_get [7, 15, 0] <| mm_ret Q
  | _ => fun _ _ _ _ => False
def pp_X7_ask : Nat → Nat
  | 0 => 0
  | 1 => 15
  | 2 => 28
  | 3 => 41
  | 4 => 48
  | 5 => 87
  | 6 => 93
  | _ => 0
/-- 137 HiddenSumsModel.found -/
def pb_X7_found (J : mm_J) (C : mm_C) (Q : mm_Q) : mm_J := fun t => match t with
  | 0 => mm_lda 0 <| mm_cst (.int 0) <| mm_put [7, 0, 0] <| mm_ldi 1 <| mm_ifc .lt 1 J <| mm_ldi 1 <| mm_lda 0 <| mm_get [7, 15, 0] <| mm_icm .lt 2 J <| mm_go 1 J
  | 1 => mm_cst (.int (-1)) <| mm_go 3 J
  | 2 => mm_lda 0 <| mm_get [7, 14, 2] <| mm_ldi 1 <| mm_ald .int <| mm_go 3 J
  | 3 => mm_ret Q
  | _ => fun _ _ _ _ => False
def pp_X7_found : Nat → Nat
  | 0 => 0
  | 1 => 17
  | 2 => 21
  | 3 => 27
  | _ => 0
/-- 138 HiddenSumsModel.cell -/
def pb_X7_cell (J : mm_J) (C : mm_C) (Q : mm_Q) : mm_J := fun t => match t with
  | 0 => mm_lda 0 <| mm_cst (.int 0) <| mm_put [7, 0, 0] <| mm_lda 0 <| mm_ldi 1 <| mm_cav 97 2 7 C <| mm_ifc .eq 1 J <| mm_ldi 2 <| mm_cas 98 1 C <| mm_ifc .ne 2 J <| mm_go 1 J
  | 1 => mm_cst (.int (-1)) <| mm_ret Q
  | 2 => mm_ldi 4 <| mm_ldi 3 <| mm_icm .ge 3 J <| mm_cst (.int (-2)) <| mm_ret Q
  | 3 => mm_lda 0 <| mm_get [7, 13, 0] <| mm_cst (.int 150) <| mm_icm .ne 4 J <| mm_cst (.int (-4)) <| mm_ret Q
  | 4 => mm_lda 0 <| mm_ldi 1 <| mm_ldi 2 <| mm_cav 126 3 7 C <| mm_ifc .eq 5 J <| mm_lda 0 <| mm_ldi 1 <| mm_cst (.int 3) <| mm_ldi 2 <| mm_ldi 3 <| mm_cst (.int 2) <| mm_cav 134 6 7 C <| mm_cst (.int (-6)) <| mm_ret Q
  | 5 => mm_cst (.int 0) <| mm_sti 5 <| mm_cst (.int 0) <| mm_sti 6 <| mm_go 6 J
  | 6 => mm_ldi 6 <| mm_lda 0 <| mm_get [7, 1, 0] <| mm_icm .ge 9 J <| mm_lda 0 <| mm_get [7, 3, 2] <| mm_cst (.int 4) <| mm_ldi 6 <| mm_ii (fun x y => x * y) <| mm_ldi 2 <| mm_ii (fun x y => x + y) <| mm_ald .int <| mm_sti 7 <| mm_ldi 5 <| mm_ldi 7 <| mm_ldi 3 <| mm_icm .lt 7 J <| mm_ldi 7 <| mm_ldi 4 <| mm_icm .gt 7 J <| mm_lda 0 <| mm_ldi 1 <| mm_ldi 6 <| mm_cav 125 3 7 C <| mm_ifc .eq 7 J <| mm_cst (.int 1) <| mm_go 8 J
  | 7 => mm_cst (.int 0) <| mm_go 8 J
  | 8 => mm_ii (fun x y => x + y) <| mm_sti 5 <| mm_inc 6 (.int 1) <| mm_go 6 J
  | 9 => mm_lda 0 <| mm_ldi 1 <| mm_cst (.int 3) <| mm_ldi 2 <| mm_ldi 3 <| mm_cst (.int 0) <| mm_cav 134 6 7 C <| mm_ldi 5 <| mm_ret Q
  | _ => fun _ _ _ _ => False
def pp_X7_cell : Nat → Nat
  | 0 => 0
  | 1 => 20
  | 2 => 22
  | 3 => 31
  | 4 => 44
  | 5 => 65
  | 6 => 71
  | 7 => 122
  | 8 => 123
  | 9 => 132
  | _ => 0
/-- 139 HiddenSumsModel.cursor -/
def pb_X7_cursor (J : mm_J) (C : mm_C) (Q : mm_Q) : mm_J := fun t => match t with
  | 0 => mm_lda 0 <| mm_cst (.int 0) <| mm_put [7, 0, 0] <| mm_lda 0 <| mm_ldi 1 <| mm_cav 97 2 7 C <| mm_ifc .ne 1 J <| mm_cst (.int (-1)) <| mm_ret Q
  | 1 => mm_lda 0 <| mm_get [7, 13, 0] <| mm_cst (.int 150) <| mm_icm .ne 2 J <| mm_cst (.int (-4)) <| mm_ret Q
  | 2 => mm_lda 0 <| mm_ldi 1 <| mm_cst (.int 4) <| mm_cav 135 3 7 C <| mm_sti 2 <| mm_ldi 2 <| mm_ifc .eq 3 J <| mm_ldi 2 <| mm_ret Q
  | 3 => mm_lda 0 <| mm_cst (.int 2) <| mm_ldi 1 <| mm_ii (fun x y => x * y) <| mm_cst (.int 1) <| mm_ii (fun x y => x + y) <| mm_cav 121 2 7 C <| mm_lda 0 <| mm_get [7, 10, 2] <| mm_ldi 1 <| mm_cst (.int 1) <| mm_ast .boolean (vp_nar .boolean) <| mm_lda 0 <| mm_get [7, 11, 2] <| mm_ldi 1 <| mm_cst (.int 0) <| mm_ast .int (fun x => x) <| mm_cst (.int 1) <| mm_ret Q
  | _ => fun _ _ _ _ => False
def pp_X7_cursor : Nat → Nat
  | 0 => 0
  | 1 => 15
  | 2 => 28
  | 3 => 41
  | _ => 0
/-- 140 HiddenSumsModel.step -/
def pb_X7_step (J : mm_J) (C : mm_C) (Q : mm_Q) : mm_J := fun t => match t with
  | 0 => mm_lda 0 <| mm_cst (.int 0) <| mm_put [7, 0, 0] <| mm_lda 0 <| mm_ldi 1 <| mm_cav 97 2 7 C <| mm_ifc .ne 1 J <| mm_cst (.int (-1)) <| mm_ret Q
  | 1 => mm_lda 0 <| mm_get [7, 10, 2] <| mm_ldi 1 <| mm_ald .boolean <| mm_ifc .ne 2 J <| mm_cst (.int (-5)) <| mm_ret Q
  | 2 => mm_lda 0 <| mm_get [7, 13, 0] <| mm_cst (.int 150) <| mm_icm .ne 3 J <| mm_cst (.int (-4)) <| mm_ret Q
  | 3 => mm_lda 0 <| mm_ldi 1 <| mm_cst (.int 2) <| mm_ldi 1 <| mm_ii (fun x y => x * y) <| mm_cst (.int 1) <| mm_ii (fun x y => x + y) <| mm_cav 128 3 7 C <| mm_ifc .eq 4 J <| mm_lda 0 <| mm_ldi 1 <| mm_cst (.int 5) <| mm_cst (.int 0) <| mm_cst (.int 0) <| mm_cst (.int 2) <| mm_cav 134 6 7 C <| mm_cst (.int (-6)) <| mm_ret Q
  | 4 => mm_lda 0 <| mm_ldi 1 <| mm_cst (.int 5) <| mm_cst (.int 0) <| mm_cst (.int 0) <| mm_cst (.int 0) <| mm_cav 134 6 7 C <| mm_lda 0 <| mm_get [7, 11, 2] <| mm_ldi 1 <| mm_ald .int <| mm_sti 2 <| mm_go 5 J
  | 5 => mm_ldi 2 <| mm_lda 0 <| mm_get [7, 1, 0] <| mm_icm .ge 7 J <| mm_lda 0 <| mm_ldi 1 <| mm_cst (.int 2) <| mm_ldi 1 <| mm_ii (fun x y => x * y) <| mm_cst (.int 1) <| mm_ii (fun x y => x + y) <| mm_ldi 2 <| mm_cav 129 4 7 C <| mm_ifc .eq 6 J <| mm_lda 0 <| mm_get [7, 11, 2] <| mm_ldi 1 <| mm_ldi 2 <| mm_cst (.int 1) <| mm_ii (fun x y => x + y) <| mm_ast .int (fun x => x) <| mm_ldi 2 <| mm_ret Q
  | 6 => mm_inc 2 (.int 1) <| mm_go 5 J
  | 7 => mm_lda 0 <| mm_get [7, 11, 2] <| mm_ldi 1 <| mm_lda 0 <| mm_get [7, 1, 0] <| mm_ast .int (fun x => x) <| mm_cst (.int (-3)) <| mm_ret Q
  | _ => fun _ _ _ _ => False
def pp_X7_step : Nat → Nat
  | 0 => 0
  | 1 => 15
  | 2 => 27
  | 3 => 40
  | 4 => 65
  | 5 => 81
  | 6 => 114
  | 7 => 120
  | _ => 0
/-- 141 HiddenSumsModel.divisor -/
def pb_X7_divisor (J : mm_J) (C : mm_C) (Q : mm_Q) : mm_J := fun t => match t with
  | 0 => mm_ldl 0 <| mm_cst (.long 0) <| mm_cmp <| mm_ifc .ge 1 J <| mm_ldl 0 <| mm_l1 (fun x => -x) <| mm_go 2 J
  | 1 => mm_ldl 0 <| mm_go 2 J
  | 2 => mm_stl 4 <| mm_ldl 2 <| mm_cst (.long 0) <| mm_cmp <| mm_ifc .ge 3 J <| mm_ldl 2 <| mm_l1 (fun x => -x) <| mm_go 4 J
  | 3 => mm_ldl 2 <| mm_go 4 J
  | 4 => mm_stl 6 <| mm_go 5 J
  | 5 => mm_ldl 6 <| mm_cst (.long 0) <| mm_cmp <| mm_ifc .eq 6 J <| mm_ldl 4 <| mm_ldl 6 <| mm_ld (fun x y => x - x / y * y) <| mm_stl 8 <| mm_ldl 6 <| mm_stl 4 <| mm_ldl 8 <| mm_stl 6 <| mm_go 5 J
  | 6 => mm_ldl 4 <| mm_rtl Q
  | _ => fun _ _ _ _ => False
def pp_X7_divisor : Nat → Nat
  | 0 => 0
  | 1 => 11
  | 2 => 12
  | 3 => 25
  | 4 => 26
  | 5 => 28
  | 6 => 53
  | _ => 0
/-- 142 HiddenSumsModel.mix -/
def pb_X7_mix (J : mm_J) (C : mm_C) (Q : mm_Q) : mm_J := fun t => match t with
  | 0 => mm_cst (.long 0) <| mm_stl 7 <| mm_cst (.int 0) <| mm_sti 9 <| mm_go 1 J
  | 1 => mm_ldi 9 <| mm_lda 0 <| mm_get [7, 1, 0] <| mm_icm .ge 2 J <| mm_lda 0 <| mm_get [7, 29, 2] <| mm_cst (.int 12) <| mm_ldi 1 <| mm_ii (fun x y => x * y) <| mm_ldi 9 <| mm_ii (fun x y => x + y) <| mm_lda 0 <| mm_get [7, 29, 2] <| mm_cst (.int 12) <| mm_ldi 1 <| mm_ii (fun x y => x * y) <| mm_ldi 9 <| mm_ii (fun x y => x + y) <| mm_lld <| mm_ldl 2 <| mm_ll (fun x y => x * y) <| mm_lda 0 <| mm_get [7, 29, 2] <| mm_cst (.int 12) <| mm_ldi 4 <| mm_ii (fun x y => x * y) <| mm_ldi 9 <| mm_ii (fun x y => x + y) <| mm_lld <| mm_ldl 5 <| mm_ll (fun x y => x * y) <| mm_ll (fun x y => x - y) <| mm_lst <| mm_ldl 7 <| mm_lda 0 <| mm_get [7, 29, 2] <| mm_cst (.int 12) <| mm_ldi 1 <| mm_ii (fun x y => x * y) <| mm_ldi 9 <| mm_ii (fun x y => x + y) <| mm_lld <| mm_cas 141 2 C <| mm_stl 7 <| mm_inc 9 (.int 1) <| mm_go 1 J
  | 2 => mm_cst (.int 0) <| mm_sti 9 <| mm_go 3 J
  | 3 => mm_ldi 9 <| mm_lda 0 <| mm_get [7, 1, 0] <| mm_icm .ge 4 J <| mm_ldl 7 <| mm_cst (.long 1) <| mm_cmp <| mm_ifc .le 4 J <| mm_lda 0 <| mm_get [7, 29, 2] <| mm_cst (.int 12) <| mm_ldi 1 <| mm_ii (fun x y => x * y) <| mm_ldi 9 <| mm_ii (fun x y => x + y) <| mm_dup2 <| mm_lld <| mm_ldl 7 <| mm_ld (fun x y => x / y) <| mm_lst <| mm_inc 9 (.int 1) <| mm_go 3 J
  | 4 => mm_rtv Q
  | _ => fun _ _ _ _ => False
def pp_X7_mix : Nat → Nat
  | 0 => 0
  | 1 => 6
  | 2 => 83
  | 3 => 86
  | 4 => 125
  | _ => 0
/-- 143 HiddenSumsModel.swap -/
def pb_X7_swap (J : mm_J) (C : mm_C) (Q : mm_Q) : mm_J := fun t => match t with
  | 0 => mm_cst (.int 0) <| mm_sti 3 <| mm_go 1 J
  | 1 => mm_ldi 3 <| mm_lda 0 <| mm_get [7, 1, 0] <| mm_icm .ge 2 J <| mm_lda 0 <| mm_get [7, 29, 2] <| mm_cst (.int 12) <| mm_ldi 1 <| mm_ii (fun x y => x * y) <| mm_ldi 3 <| mm_ii (fun x y => x + y) <| mm_lld <| mm_stl 4 <| mm_lda 0 <| mm_get [7, 29, 2] <| mm_cst (.int 12) <| mm_ldi 1 <| mm_ii (fun x y => x * y) <| mm_ldi 3 <| mm_ii (fun x y => x + y) <| mm_lda 0 <| mm_get [7, 29, 2] <| mm_cst (.int 12) <| mm_ldi 2 <| mm_ii (fun x y => x * y) <| mm_ldi 3 <| mm_ii (fun x y => x + y) <| mm_lld <| mm_lst <| mm_lda 0 <| mm_get [7, 29, 2] <| mm_cst (.int 12) <| mm_ldi 2 <| mm_ii (fun x y => x * y) <| mm_ldi 3 <| mm_ii (fun x y => x + y) <| mm_ldl 4 <| mm_lst <| mm_inc 3 (.int 1) <| mm_go 1 J
  | 2 => mm_rtv Q
  | _ => fun _ _ _ _ => False
def pp_X7_swap : Nat → Nat
  | 0 => 0
  | 1 => 2
  | 2 => 64
  | _ => 0
/-- 144 HiddenSumsModel.reduce -/
def pb_X7_reduce (J : mm_J) (C : mm_C) (Q : mm_Q) : mm_J := fun t => match t with
  | 0 => mm_cst (.int 0) <| mm_sti 4 <| mm_cst (.int 0) <| mm_sti 5 <| mm_go 1 J
  | 1 => mm_ldi 5 <| mm_lda 0 <| mm_get [7, 18, 0] <| mm_icm .gt 8 J <| mm_ldi 5 <| mm_lda 0 <| mm_get [7, 18, 0] <| mm_icm .ne 2 J <| mm_ldi 3 <| mm_go 4 J
  | 2 => mm_lda 0 <| mm_get [7, 16, 2] <| mm_ldi 5 <| mm_ald .int <| mm_cst (.int 4) <| mm_ldi 1 <| mm_ii (fun x y => x * y) <| mm_ldi 2 <| mm_ii (fun x y => x + y) <| mm_icm .ne 3 J <| mm_lda 0 <| mm_get [7, 17, 2] <| mm_ldi 5 <| mm_ald .int <| mm_go 4 J
  | 3 => mm_cst (.int 0) <| mm_go 4 J
  | 4 => mm_sti 6 <| mm_ldi 6 <| mm_ifc .eq 7 J <| mm_cst (.int 0) <| mm_sti 7 <| mm_go 5 J
  | 5 => mm_ldi 7 <| mm_cst (.int 12) <| mm_icm .ge 6 J <| mm_lda 0 <| mm_get [7, 29, 2] <| mm_cst (.int 12) <| mm_ldi 4 <| mm_ii (fun x y => x * y) <| mm_ldi 7 <| mm_ii (fun x y => x + y) <| mm_ldi 6 <| mm_ldi 7 <| mm_ii (fun x y => x >>> (y &&& 31)) <| mm_cst (.int 1) <| mm_ii (fun x y => x &&& y) <| mm_i2l <| mm_lst <| mm_inc 7 (.int 1) <| mm_go 5 J
  | 6 => mm_inc 4 (.int 1) <| mm_go 7 J
  | 7 => mm_inc 5 (.int 1) <| mm_go 1 J
  | 8 => mm_lda 0 <| mm_cst (.int 0) <| mm_put [7, 31, 0] <| mm_cst (.int 0) <| mm_sti 5 <| mm_go 9 J
  | 9 => mm_ldi 5 <| mm_lda 0 <| mm_get [7, 1, 0] <| mm_icm .ge 16 J <| mm_lda 0 <| mm_get [7, 31, 0] <| mm_sti 6 <| mm_go 10 J
  | 10 => mm_ldi 6 <| mm_ldi 4 <| mm_icm .ge 11 J <| mm_lda 0 <| mm_get [7, 29, 2] <| mm_cst (.int 12) <| mm_ldi 6 <| mm_ii (fun x y => x * y) <| mm_ldi 5 <| mm_ii (fun x y => x + y) <| mm_lld <| mm_cst (.long 0) <| mm_cmp <| mm_ifc .ne 11 J <| mm_inc 6 (.int 1) <| mm_go 10 J
  | 11 => mm_ldi 6 <| mm_ldi 4 <| mm_icm .ge 15 J <| mm_lda 0 <| mm_lda 0 <| mm_get [7, 31, 0] <| mm_ldi 6 <| mm_cav 143 3 7 C <| mm_cst (.int 0) <| mm_sti 7 <| mm_go 12 J
  | 12 => mm_ldi 7 <| mm_ldi 4 <| mm_icm .ge 14 J <| mm_ldi 7 <| mm_lda 0 <| mm_get [7, 31, 0] <| mm_icm .eq 13 J <| mm_lda 0 <| mm_get [7, 29, 2] <| mm_cst (.int 12) <| mm_ldi 7 <| mm_ii (fun x y => x * y) <| mm_ldi 5 <| mm_ii (fun x y => x + y) <| mm_lld <| mm_cst (.long 0) <| mm_cmp <| mm_ifc .eq 13 J <| mm_lda 0 <| mm_ldi 7 <| mm_lda 0 <| mm_get [7, 29, 2] <| mm_cst (.int 12) <| mm_lda 0 <| mm_get [7, 31, 0] <| mm_ii (fun x y => x * y) <| mm_ldi 5 <| mm_ii (fun x y => x + y) <| mm_lld <| mm_lda 0 <| mm_get [7, 31, 0] <| mm_lda 0 <| mm_get [7, 29, 2] <| mm_cst (.int 12) <| mm_ldi 7 <| mm_ii (fun x y => x * y) <| mm_ldi 5 <| mm_ii (fun x y => x + y) <| mm_lld <| mm_cav 142 5 7 C <| mm_go 13 J
  | 13 => mm_inc 7 (.int 1) <| mm_go 12 J
  | 14 => mm_lda 0 <| mm_get [7, 30, 2] <| mm_lda 0 <| mm_get [7, 31, 0] <| mm_ldi 5 <| mm_ast .int (fun x => x) <| mm_lda 0 <| mm_dup <| mm_get [7, 31, 0] <| mm_cst (.int 1) <| mm_ii (fun x y => x + y) <| mm_put [7, 31, 0] <| mm_go 15 J
  | 15 => mm_inc 5 (.int 1) <| mm_go 9 J
  | 16 => mm_rtv Q
  | _ => fun _ _ _ _ => False
def pp_X7_reduce : Nat → Nat
  | 0 => 0
  | 1 => 6
  | 2 => 28
  | 3 => 53
  | 4 => 54
  | 5 => 64
  | 6 => 98
  | 7 => 101
  | 8 => 107
  | 9 => 115
  | 10 => 130
  | 11 => 161
  | 12 => 181
  | 13 => 253
  | 14 => 259
  | 15 => 280
  | 16 => 286
  | _ => 0
/-- 145 HiddenSumsModel.rowOf -/
def pb_X7_rowOf (J : mm_J) (C : mm_C) (Q : mm_Q) : mm_J := fun t => match t with
  | 0 => mm_cst (.int 0) <| mm_sti 2 <| mm_go 1 J
  | 1 => mm_ldi 2 <| mm_lda 0 <| mm_get [7, 31, 0] <| mm_icm .ge 3 J <| mm_lda 0 <| mm_get [7, 30, 2] <| mm_ldi 2 <| mm_ald .int <| mm_ldi 1 <| mm_icm .ne 2 J <| mm_ldi 2 <| mm_ret Q
  | 2 => mm_inc 2 (.int 1) <| mm_go 1 J
  | 3 => mm_cst (.int (-1)) <| mm_ret Q
  | _ => fun _ _ _ _ => False
def pp_X7_rowOf : Nat → Nat
  | 0 => 0
  | 1 => 2
  | 2 => 22
  | 3 => 28
  | _ => 0
/-- 146 HiddenSumsModel.isSolved -/
def pb_X7_isSolved (J : mm_J) (C : mm_C) (Q : mm_Q) : mm_J := fun t => match t with
  | 0 => mm_lda 0 <| mm_ldi 1 <| mm_cav 145 2 7 C <| mm_sti 2 <| mm_ldi 2 <| mm_cst (.int (-1)) <| mm_icm .ne 1 J <| mm_cst (.int 0) <| mm_rtz Q
  | 1 => mm_cst (.int 0) <| mm_sti 3 <| mm_go 2 J
  | 2 => mm_ldi 3 <| mm_lda 0 <| mm_get [7, 1, 0] <| mm_icm .ge 4 J <| mm_ldi 3 <| mm_ldi 1 <| mm_icm .eq 3 J <| mm_lda 0 <| mm_get [7, 29, 2] <| mm_cst (.int 12) <| mm_ldi 2 <| mm_ii (fun x y => x * y) <| mm_ldi 3 <| mm_ii (fun x y => x + y) <| mm_lld <| mm_cst (.long 0) <| mm_cmp <| mm_ifc .eq 3 J <| mm_cst (.int 0) <| mm_rtz Q
  | 3 => mm_inc 3 (.int 1) <| mm_go 2 J
  | 4 => mm_cst (.int 1) <| mm_rtz Q
  | _ => fun _ _ _ _ => False
def pp_X7_isSolved : Nat → Nat
  | 0 => 0
  | 1 => 13
  | 2 => 15
  | 3 => 46
  | 4 => 52
  | _ => 0
/-- 147 HiddenSumsModel.isKeptBack -/
def pb_X7_isKeptBack (J : mm_J) (C : mm_C) (Q : mm_Q) : mm_J := fun t => match t with
  | 0 => mm_cst (.int 0) <| mm_sti 4 <| mm_lda 0 <| mm_ldi 1 <| mm_ldi 2 <| mm_cst (.int 0) <| mm_cav 144 4 7 C <| mm_cst (.int 0) <| mm_sti 5 <| mm_go 1 J
  | 1 => mm_ldi 5 <| mm_lda 0 <| mm_get [7, 1, 0] <| mm_icm .ge 4 J <| mm_ldi 4 <| mm_lda 0 <| mm_ldi 5 <| mm_cav 146 2 7 C <| mm_ifc .eq 2 J <| mm_cst (.int 1) <| mm_ldi 5 <| mm_ii (fun x y => x <<< (y &&& 31)) <| mm_go 3 J
  | 2 => mm_cst (.int 0) <| mm_go 3 J
  | 3 => mm_ii (fun x y => x ||| y) <| mm_sti 4 <| mm_inc 5 (.int 1) <| mm_go 1 J
  | 4 => mm_lda 0 <| mm_ldi 1 <| mm_ldi 2 <| mm_ldi 3 <| mm_cav 144 4 7 C <| mm_cst (.int 0) <| mm_sti 5 <| mm_go 5 J
  | 5 => mm_ldi 5 <| mm_lda 0 <| mm_get [7, 1, 0] <| mm_icm .ge 7 J <| mm_lda 0 <| mm_ldi 1 <| mm_ldi 2 <| mm_ldi 5 <| mm_cav 127 4 7 C <| mm_ifc .eq 6 J <| mm_lda 0 <| mm_ldi 5 <| mm_cav 146 2 7 C <| mm_ifc .eq 6 J <| mm_ldi 4 <| mm_ldi 5 <| mm_ii (fun x y => x >>> (y &&& 31)) <| mm_cst (.int 1) <| mm_ii (fun x y => x &&& y) <| mm_ifc .ne 6 J <| mm_cst (.int 1) <| mm_rtz Q
  | 6 => mm_inc 5 (.int 1) <| mm_go 5 J
  | 7 => mm_cst (.int 0) <| mm_rtz Q
  | _ => fun _ _ _ _ => False
def pp_X7_isKeptBack : Nat → Nat
  | 0 => 0
  | 1 => 13
  | 2 => 40
  | 3 => 41
  | 4 => 50
  | 5 => 60
  | 6 => 101
  | 7 => 107
  | _ => 0
/-- 148 HiddenSumsModel.tell -/
def pb_X7_tell (J : mm_J) (C : mm_C) (Q : mm_Q) : mm_J := fun t => match t with
  | 0 => mm_lda 0 <| mm_get [7, 16, 2] <| mm_lda 0 <| mm_get [7, 18, 0] <| mm_cst (.int 4) <| mm_ldi 1 <| mm_ii (fun x y => x * y) <| mm_ldi 2 <| mm_ii (fun x y => x + y) <| mm_ast .int (fun x => x) <| mm_lda 0 <| mm_get [7, 17, 2] <| mm_lda 0 <| mm_get [7, 18, 0] <| mm_ldi 3 <| mm_ast .int (fun x => x) <| mm_lda 0 <| mm_dup <| mm_get [7, 18, 0] <| mm_cst (.int 1) <| mm_ii (fun x y => x + y) <| mm_put [7, 18, 0] <| mm_rtv Q
  | _ => fun _ _ _ _ => False
def pp_X7_tell : Nat → Nat
  | 0 => 0
  | _ => 0
/-- 149 HiddenSumsModel.value -/
def pb_X7_value (J : mm_J) (C : mm_C) (Q : mm_Q) : mm_J := fun t => match t with
  | 0 => mm_lda 0 <| mm_cst (.int 0) <| mm_put [7, 0, 0] <| mm_lda 0 <| mm_ldi 1 <| mm_cav 97 2 7 C <| mm_ifc .eq 1 J <| mm_lda 0 <| mm_ldi 2 <| mm_cav 96 2 7 C <| mm_ifc .eq 1 J <| mm_ldi 3 <| mm_cas 98 1 C <| mm_ifc .ne 2 J <| mm_go 1 J
  | 1 => mm_lda 0 <| mm_cst (.int 1) <| mm_put [7, 0, 0] <| mm_cst (.int 0) <| mm_ret Q
  | 2 => mm_lda 0 <| mm_get [7, 13, 0] <| mm_cst (.int 150) <| mm_icm .ne 3 J <| mm_lda 0 <| mm_cst (.int 2) <| mm_put [7, 0, 0] <| mm_cst (.int 0) <| mm_ret Q
  | 3 => mm_lda 0 <| mm_ldi 1 <| mm_ldi 3 <| mm_ldi 2 <| mm_cav 127 4 7 C <| mm_ifc .ne 4 J <| mm_lda 0 <| mm_ldi 1 <| mm_ldi 3 <| mm_cst (.int 1) <| mm_ldi 2 <| mm_ii (fun x y => x <<< (y &&& 31)) <| mm_cav 147 4 7 C <| mm_ifc .eq 5 J <| mm_go 4 J
  | 4 => mm_lda 0 <| mm_ldi 1 <| mm_cst (.int 1) <| mm_ldi 2 <| mm_ldi 3 <| mm_cst (.int 1) <| mm_cav 134 6 7 C <| mm_lda 0 <| mm_cst (.int 3) <| mm_put [7, 0, 0] <| mm_cst (.int 0) <| mm_ret Q
  | 5 => mm_lda 0 <| mm_ldi 1 <| mm_cst (.int 1) <| mm_ldi 2 <| mm_ldi 3 <| mm_cst (.int 0) <| mm_cav 134 6 7 C <| mm_lda 0 <| mm_ldi 1 <| mm_ldi 3 <| mm_cst (.int 1) <| mm_ldi 2 <| mm_ii (fun x y => x <<< (y &&& 31)) <| mm_cav 148 4 7 C <| mm_lda 0 <| mm_get [7, 3, 2] <| mm_cst (.int 4) <| mm_ldi 2 <| mm_ii (fun x y => x * y) <| mm_ldi 3 <| mm_ii (fun x y => x + y) <| mm_ald .int <| mm_ret Q
  | _ => fun _ _ _ _ => False
def pp_X7_value : Nat → Nat
  | 0 => 0
  | 1 => 28
  | 2 => 35
  | 3 => 52
  | 4 => 74
  | 5 => 90
  | _ => 0
/-- 150 HiddenSumsModel.sum -/
def pb_X7_sum_ (J : mm_J) (C : mm_C) (Q : mm_Q) : mm_J := fun t => match t with
  | 0 => mm_lda 0 <| mm_cst (.int 0) <| mm_put [7, 0, 0] <| mm_lda 0 <| mm_ldi 1 <| mm_cav 97 2 7 C <| mm_ifc .eq 1 J <| mm_ldi 2 <| mm_cas 98 1 C <| mm_ifc .eq 1 J <| mm_lda 0 <| mm_ldi 3 <| mm_cav 99 2 7 C <| mm_ifc .ne 2 J <| mm_go 1 J
  | 1 => mm_lda 0 <| mm_cst (.int 1) <| mm_put [7, 0, 0] <| mm_cst (.int 0) <| mm_ret Q
  | 2 => mm_lda 0 <| mm_get [7, 13, 0] <| mm_cst (.int 150) <| mm_icm .ne 3 J <| mm_lda 0 <| mm_cst (.int 2) <| mm_put [7, 0, 0] <| mm_cst (.int 0) <| mm_ret Q
  | 3 => mm_lda 0 <| mm_ldi 1 <| mm_ldi 2 <| mm_ldi 3 <| mm_cav 147 4 7 C <| mm_ifc .eq 4 J <| mm_lda 0 <| mm_ldi 1 <| mm_cst (.int 2) <| mm_ldi 2 <| mm_ldi 3 <| mm_cst (.int 1) <| mm_cav 134 6 7 C <| mm_lda 0 <| mm_cst (.int 3) <| mm_put [7, 0, 0] <| mm_cst (.int 0) <| mm_ret Q
  | 4 => mm_lda 0 <| mm_ldi 1 <| mm_cst (.int 2) <| mm_ldi 2 <| mm_ldi 3 <| mm_cst (.int 0) <| mm_cav 134 6 7 C <| mm_lda 0 <| mm_ldi 1 <| mm_ldi 2 <| mm_ldi 3 <| mm_cav 148 4 7 C <| mm_cst (.int 0) <| mm_sti 4 <| mm_cst (.int 0) <| mm_sti 5 <| mm_go 5 J
  | 5 => mm_ldi 5 <| mm_lda 0 <| mm_get [7, 1, 0] <| mm_icm .ge 8 J <| mm_ldi 4 <| mm_ldi 3 <| mm_ldi 5 <| mm_ii (fun x y => x >>> (y &&& 31)) <| mm_cst (.int 1) <| mm_ii (fun x y => x &&& y) <| mm_cst (.int 1) <| mm_icm .ne 6 J <| mm_lda 0 <| mm_get [7, 3, 2] <| mm_cst (.int 4) <| mm_ldi 5 <| mm_ii (fun x y => x * y) <| mm_ldi 2 <| mm_ii (fun x y => x + y) <| mm_ald .int <| mm_go 7 J
  | 6 => mm_cst (.int 0) <| mm_go 7 J
  | 7 => mm_ii (fun x y => x + y) <| mm_sti 4 <| mm_inc 5 (.int 1) <| mm_go 5 J
  | 8 => mm_ldi 4 <| mm_ret Q
  | _ => fun _ _ _ _ => False
def pp_X7_sum_ : Nat → Nat
  | 0 => 0
  | 1 => 28
  | 2 => 35
  | 3 => 52
  | 4 => 78
  | 5 => 100
  | 6 => 135
  | 7 => 136
  | 8 => 145
  | _ => 0
/-- 151 HiddenSumsModel.solved -/
def pb_X7_solved (J : mm_J) (C : mm_C) (Q : mm_Q) : mm_J := fun t => match t with
  | 0 => mm_lda 0 <| mm_cst (.int 0) <| mm_put [7, 0, 0] <| mm_lda 0 <| mm_ldi 1 <| mm_cav 97 2 7 C <| mm_ifc .eq 1 J <| mm_ldi 2 <| mm_cas 98 1 C <| mm_ifc .eq 1 J <| mm_lda 0 <| mm_ldi 3 <| mm_cav 96 2 7 C <| mm_ifc .ne 2 J <| mm_go 1 J
  | 1 => mm_cst (.int (-1)) <| mm_ret Q
  | 2 => mm_lda 0 <| mm_ldi 1 <| mm_ldi 2 <| mm_cst (.int 0) <| mm_cav 144 4 7 C <| mm_lda 0 <| mm_ldi 3 <| mm_cav 146 2 7 C <| mm_ifc .eq 3 J <| mm_cst (.int 1) <| mm_go 4 J
  | 3 => mm_cst (.int 0) <| mm_go 4 J
  | 4 => mm_ret Q
  | _ => fun _ _ _ _ => False
def pp_X7_solved : Nat → Nat
  | 0 => 0
  | 1 => 28
  | 2 => 30
  | 3 => 49
  | 4 => 50
  | _ => 0
/-- 152 HiddenSumsModel.would -/
def pb_X7_would (J : mm_J) (C : mm_C) (Q : mm_Q) : mm_J := fun t => match t with
  | 0 => mm_lda 0 <| mm_cst (.int 0) <| mm_put [7, 0, 0] <| mm_lda 0 <| mm_ldi 1 <| mm_cav 97 2 7 C <| mm_ifc .eq 1 J <| mm_ldi 2 <| mm_cas 98 1 C <| mm_ifc .eq 1 J <| mm_lda 0 <| mm_ldi 3 <| mm_cav 96 2 7 C <| mm_ifc .ne 2 J <| mm_go 1 J
  | 1 => mm_cst (.int (-1)) <| mm_ret Q
  | 2 => mm_lda 0 <| mm_ldi 4 <| mm_cav 99 2 7 C <| mm_ifc .ne 3 J <| mm_cst (.int (-2)) <| mm_ret Q
  | 3 => mm_lda 0 <| mm_ldi 1 <| mm_ldi 2 <| mm_ldi 4 <| mm_cav 144 4 7 C <| mm_lda 0 <| mm_ldi 3 <| mm_cav 146 2 7 C <| mm_ifc .eq 4 J <| mm_cst (.int 1) <| mm_go 5 J
  | 4 => mm_cst (.int 0) <| mm_go 5 J
  | 5 => mm_ret Q
  | _ => fun _ _ _ _ => False
def pp_X7_would : Nat → Nat
  | 0 => 0
  | 1 => 28
  | 2 => 30
  | 3 => 42
  | 4 => 62
  | 5 => 63
  | _ => 0
/-- 153 HiddenSumsModel.world -/
def pb_X7_world (J : mm_J) (C : mm_C) (Q : mm_Q) : mm_J := fun t => match t with
  | 0 => mm_lda 0 <| mm_cst (.int 0) <| mm_put [7, 0, 0] <| mm_lda 0 <| mm_ldi 1 <| mm_cav 97 2 7 C <| mm_ifc .eq 1 J <| mm_ldi 2 <| mm_cas 98 1 C <| mm_ifc .eq 1 J <| mm_lda 0 <| mm_ldi 3 <| mm_cav 96 2 7 C <| mm_ifc .eq 1 J <| mm_lda 0 <| mm_ldi 4 <| mm_cav 96 2 7 C <| mm_ifc .ne 2 J <| mm_go 1 J
  | 1 => mm_cst (.long (-1)) <| mm_rtl Q
  | 2 => mm_lda 0 <| mm_ldi 1 <| mm_ldi 2 <| mm_cst (.int 0) <| mm_cav 144 4 7 C <| mm_lda 0 <| mm_ldi 3 <| mm_cav 146 2 7 C <| mm_ifc .eq 3 J <| mm_cst (.long (-5)) <| mm_rtl Q
  | 3 => mm_ldi 3 <| mm_sti 5 <| mm_lda 0 <| mm_ldi 3 <| mm_cav 145 2 7 C <| mm_sti 6 <| mm_ldi 6 <| mm_cst (.int (-1)) <| mm_icm .eq 5 J <| mm_ldi 3 <| mm_cst (.int 1) <| mm_ii (fun x y => x + y) <| mm_sti 5 <| mm_go 4 J
  | 4 => mm_lda 0 <| mm_get [7, 29, 2] <| mm_cst (.int 12) <| mm_ldi 6 <| mm_ii (fun x y => x * y) <| mm_ldi 5 <| mm_ii (fun x y => x + y) <| mm_lld <| mm_cst (.long 0) <| mm_cmp <| mm_ifc .ne 5 J <| mm_inc 5 (.int 1) <| mm_go 4 J
  | 5 => mm_cst (.long 1) <| mm_stl 7 <| mm_cst (.int 0) <| mm_sti 9 <| mm_go 6 J
  | 6 => mm_ldi 9 <| mm_lda 0 <| mm_get [7, 31, 0] <| mm_icm .ge 9 J <| mm_lda 0 <| mm_get [7, 29, 2] <| mm_cst (.int 12) <| mm_ldi 9 <| mm_ii (fun x y => x * y) <| mm_lda 0 <| mm_get [7, 30, 2] <| mm_ldi 9 <| mm_ald .int <| mm_ii (fun x y => x + y) <| mm_lld <| mm_stl 10 <| mm_lda 0 <| mm_get [7, 29, 2] <| mm_cst (.int 12) <| mm_ldi 9 <| mm_ii (fun x y => x * y) <| mm_ldi 5 <| mm_ii (fun x y => x + y) <| mm_lld <| mm_stl 12 <| mm_ldl 10 <| mm_ldl 10 <| mm_ldl 12 <| mm_cas 141 2 C <| mm_ld (fun x y => x / y) <| mm_stl 14 <| mm_ldl 14 <| mm_cst (.long 0) <| mm_cmp <| mm_ifc .ge 7 J <| mm_ldl 14 <| mm_l1 (fun x => -x) <| mm_go 8 J
  | 7 => mm_ldl 14 <| mm_go 8 J
  | 8 => mm_stl 14 <| mm_ldl 7 <| mm_ldl 7 <| mm_ldl 14 <| mm_cas 141 2 C <| mm_ld (fun x y => x / y) <| mm_ldl 14 <| mm_ll (fun x y => x * y) <| mm_stl 7 <| mm_inc 9 (.int 1) <| mm_go 6 J
  | 9 => mm_lda 0 <| mm_ldi 4 <| mm_cav 145 2 7 C <| mm_sti 9 <| mm_ldi 9 <| mm_cst (.int (-1)) <| mm_icm .ne 12 J <| mm_ldi 4 <| mm_ldi 5 <| mm_icm .ne 10 J <| mm_ldl 7 <| mm_go 11 J
  | 10 => mm_cst (.long 0) <| mm_go 11 J
  | 11 => mm_rtl Q
  | 12 => mm_lda 0 <| mm_get [7, 29, 2] <| mm_cst (.int 12) <| mm_ldi 9 <| mm_ii (fun x y => x * y) <| mm_ldi 5 <| mm_ii (fun x y => x + y) <| mm_lld <| mm_ldl 7 <| mm_ll (fun x y => x * y) <| mm_lda 0 <| mm_get [7, 29, 2] <| mm_cst (.int 12) <| mm_ldi 9 <| mm_ii (fun x y => x * y) <| mm_lda 0 <| mm_get [7, 30, 2] <| mm_ldi 9 <| mm_ald .int <| mm_ii (fun x y => x + y) <| mm_lld <| mm_ld (fun x y => x / y) <| mm_l1 (fun x => -x) <| mm_rtl Q
  | _ => fun _ _ _ _ => False
def pp_X7_world : Nat → Nat
  | 0 => 0
  | 1 => 37
  | 2 => 41
  | 3 => 60
  | 4 => 81
  | 5 => 105
  | 6 => 111
  | 7 => 180
  | 8 => 182
  | 9 => 205
  | 10 => 231
  | 11 => 232
  | 12 => 233
  | _ => 0
/-- 154 HiddenSumsModel.rows -/
def pb_X7_rows (J : mm_J) (C : mm_C) (Q : mm_Q) : mm_J := fun t => match t with
  | 0 => mm_lda 0 <| mm_cst (.int 0) <| mm_put [7, 0, 0] <| mm_lda 0 <| mm_ldi 1 <| mm_cav 97 2 7 C <| mm_ifc .eq 1 J <| mm_ldi 2 <| mm_cas 98 1 C <| mm_ifc .ne 2 J <| mm_go 1 J
  | 1 => mm_cst (.int (-1)) <| mm_ret Q
  | 2 => mm_lda 0 <| mm_ldi 1 <| mm_ldi 2 <| mm_cst (.int 0) <| mm_cav 144 4 7 C <| mm_lda 0 <| mm_get [7, 31, 0] <| mm_ret Q
  | _ => fun _ _ _ _ => False
def pp_X7_rows : Nat → Nat
  | 0 => 0
  | 1 => 20
  | 2 => 22
  | _ => 0
/-- 155 HiddenSumsModel.audit -/
def pb_X7_audit (J : mm_J) (C : mm_C) (Q : mm_Q) : mm_J := fun t => match t with
  | 0 => mm_lda 0 <| mm_cst (.int 0) <| mm_put [7, 0, 0] <| mm_ldi 1 <| mm_ifc .lt 1 J <| mm_ldi 1 <| mm_lda 0 <| mm_get [7, 13, 0] <| mm_icm .lt 2 J <| mm_go 1 J
  | 1 => mm_cst (.int (-1)) <| mm_ret Q
  | 2 => mm_ldi 2 <| mm_ifc .lt 3 J <| mm_ldi 2 <| mm_cst (.int 4) <| mm_icm .le 4 J <| mm_go 3 J
  | 3 => mm_cst (.int (-2)) <| mm_go 5 J
  | 4 => mm_lda 0 <| mm_get [7, 12, 2] <| mm_cst (.int 5) <| mm_ldi 1 <| mm_ii (fun x y => x * y) <| mm_ldi 2 <| mm_ii (fun x y => x + y) <| mm_ald .int <| mm_go 5 J
  | 5 => mm_ret Q
  | _ => fun _ _ _ _ => False
def pp_X7_audit : Nat → Nat
  | 0 => 0
  | 1 => 17
  | 2 => 19
  | 3 => 28
  | 4 => 33
  | 5 => 43
  | _ => 0
/-- 156 HiddenSumsModel.told -/
def pb_X7_told (J : mm_J) (C : mm_C) (Q : mm_Q) : mm_J := fun t => match t with
  | 0 => mm_lda 0 <| mm_cst (.int 0) <| mm_put [7, 0, 0] <| mm_ldi 1 <| mm_tsw J 0 [8, 1, 2, 3, 4, 5]
  | 1 => mm_lda 0 <| mm_get [7, 1, 0] <| mm_ret Q
  | 2 => mm_lda 0 <| mm_get [7, 2, 0] <| mm_ret Q
  | 3 => mm_lda 0 <| mm_get [7, 5, 0] <| mm_ret Q
  | 4 => mm_lda 0 <| mm_get [7, 13, 0] <| mm_ret Q
  | 5 => mm_lda 0 <| mm_get [7, 18, 0] <| mm_ifc .le 6 J <| mm_cst (.int 1) <| mm_go 7 J
  | 6 => mm_cst (.int 0) <| mm_go 7 J
  | 7 => mm_ret Q
  | 8 => mm_cst (.int (-2)) <| mm_ret Q
  | _ => fun _ _ _ _ => False
def pp_X7_told : Nat → Nat
  | 0 => 0
  | 1 => 40
  | 2 => 45
  | 3 => 50
  | 4 => 55
  | 5 => 60
  | 6 => 71
  | 7 => 72
  | 8 => 73
  | _ => 0
/-- 157 HiddenSumsModel.clear -/
def pb_X7_clear (J : mm_J) (C : mm_C) (Q : mm_Q) : mm_J := fun t => match t with
  | 0 => mm_lda 0 <| mm_cst (.int 0) <| mm_put [7, 0, 0] <| mm_lda 0 <| mm_cst (.int 0) <| mm_put [7, 1, 0] <| mm_lda 0 <| mm_cst (.int 0) <| mm_put [7, 2, 0] <| mm_lda 0 <| mm_cst (.int 0) <| mm_put [7, 5, 0] <| mm_lda 0 <| mm_cst (.int (-1)) <| mm_put [7, 6, 0] <| mm_lda 0 <| mm_cst (.int 0) <| mm_put [7, 13, 0] <| mm_lda 0 <| mm_cst (.int 0) <| mm_put [7, 15, 0] <| mm_lda 0 <| mm_cst (.int 0) <| mm_put [7, 18, 0] <| mm_rtv Q
  | _ => fun _ _ _ _ => False
def pp_X7_clear : Nat → Nat
  | 0 => 0
  | _ => 0
/-- 158 java/util/Arrays.fill -/
def pb_J7_fill_d0a16 (J : mm_J) (C : mm_C) (Q : mm_Q) : mm_J := fun t => match t with
  | 0 => mm_cst (.int 0) <| mm_sti 3 <| mm_lda 0 <| mm_len <| mm_sti 4 <| mm_go 1 J
  | 1 => mm_ldi 3 <| mm_ldi 4 <| mm_icm .ge 2 J <| mm_lda 0 <| mm_ldi 3 <| mm_ldl 1 <| mm_lst <| mm_inc 3 (.int 1) <| mm_go 1 J
  | 2 => mm_rtv Q
  | _ => fun _ _ _ _ => False
def pp_J7_fill_d0a16 : Nat → Nat
  | 0 => 0
  | 1 => 6
  | 2 => 22
  | _ => 0
/-- 159 java/lang/String.length -/
def pb_J0_length_8abf5 (J : mm_J) (C : mm_C) (Q : mm_Q) : mm_J := fun t => match t with
  | 0 => mm_lda 0 <| mm_sgv <| mm_sln <| mm_lda 0 <| mm_css 160 1 C <| mm_ii (fun x y => x >>> (y &&& 31)) <| mm_ret Q
  | _ => fun _ _ _ _ => False
def pp_J0_length_8abf5 : Nat → Nat
  | 0 => 0
  | _ => 0
/-- 160 java/lang/String.coder -/
def pb_J0_coder_7d493 (J : mm_J) (C : mm_C) (Q : mm_Q) : mm_J := fun t => match t with
  | 0 => mm_cst (.int 1) <| mm_ifc .eq 1 J <| mm_lda 0 <| mm_sgc <| mm_go 2 J
  | 1 => mm_cst (.int 1) <| mm_go 2 J
  | 2 => mm_rtn .byte Q
  | _ => fun _ _ _ _ => False
def pp_J0_coder_7d493 : Nat → Nat
  | 0 => 0
  | 1 => 13
  | 2 => 14
  | _ => 0
/-- 161 java/lang/String.isLatin1 -/
def pb_J0_isLatin1_aae02 (J : mm_J) (C : mm_C) (Q : mm_Q) : mm_J := fun t => match t with
  | 0 => mm_cst (.int 1) <| mm_ifc .eq 1 J <| mm_lda 0 <| mm_sgc <| mm_ifc .ne 1 J <| mm_cst (.int 1) <| mm_go 2 J
  | 1 => mm_cst (.int 0) <| mm_go 2 J
  | 2 => mm_rtz Q
  | _ => fun _ _ _ _ => False
def pp_J0_isLatin1_aae02 : Nat → Nat
  | 0 => 0
  | 1 => 17
  | 2 => 18
  | _ => 0
/-- 162 java/lang/String.charAt -/
def pb_J0_charAt_5068e (J : mm_J) (C : mm_C) (Q : mm_Q) : mm_J := fun t => match t with
  | 0 => mm_lda 0 <| mm_css 161 1 C <| mm_ifc .eq 1 J <| mm_lda 0 <| mm_sgv <| mm_ldi 1 <| mm_cas 163 2 C <| mm_rtn .char Q
  | 1 => mm_bad
  | _ => fun _ _ _ _ => False
def pp_J0_charAt_5068e : Nat → Nat
  | 0 => 0
  | 1 => 16
  | _ => 0
/-- 163 java/lang/StringLatin1.charAt -/
def pb_J1_charAt_3b067 (J : mm_J) (C : mm_C) (Q : mm_Q) : mm_J := fun t => match t with
  | 0 => mm_ldi 1 <| mm_lda 0 <| mm_sln <| mm_cas 164 2 C <| mm_lda 0 <| mm_ldi 1 <| mm_sbl <| mm_cst (.int 255) <| mm_ii (fun x y => x &&& y) <| mm_i1 (fun x => (x.toUInt32 % 65536).toInt32) <| mm_rtn .char Q
  | _ => fun _ _ _ _ => False
def pp_J1_charAt_3b067 : Nat → Nat
  | 0 => 0
  | _ => 0
/-- 164 java/lang/String.checkIndex -/
def pb_J0_checkIndex_df160 (J : mm_J) (C : mm_C) (Q : mm_Q) : mm_J := fun t => match t with
  | 0 => mm_ldi 0 <| mm_ldi 1 <| mm_zq <| mm_cas 165 3 C <| mm_pop <| mm_rtv Q
  | _ => fun _ _ _ _ => False
def pp_J0_checkIndex_df160 : Nat → Nat
  | 0 => 0
  | _ => 0
/-- 165 jdk/internal/util/Preconditions.checkIndex -/
def pb_J3_checkIndex_8e157 (J : mm_J) (C : mm_C) (Q : mm_Q) : mm_J := fun t => match t with
  | 0 => mm_ldi 0 <| mm_ifc .lt 1 J <| mm_ldi 0 <| mm_ldi 1 <| mm_icm .lt 2 J <| mm_go 1 J
  | 1 => mm_bad
  | 2 => mm_ldi 0 <| mm_ret Q
  | _ => fun _ _ _ _ => False
def pp_J3_checkIndex_8e157 : Nat → Nat
  | 0 => 0
  | 1 => 9
  | 2 => 16
  | _ => 0
