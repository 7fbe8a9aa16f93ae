/-! the law, block by block, and its soundness -/
def R_law : String := "HiddenSumsLaw"
def lw_P (b : Addr) (xs : List Int32) (args : Array Value) (s : State) : Prop := args = #[.ref b] ∧ s.IntsAt b xs ∧ xs.length ≤ 2560 ∧ (Jvm.Cond.and given_1 narrow_1).before args s = true
def lw_Q (_ : Array Value) (s : State) (o : Outcome) (t : State) : Prop := o = .returned (some (.int 1)) ∧ Framed s o t [] 601024 7293034
def lw_Z (below : List Frame) (a : Array Value) (s : State) : State → Prop := fun t => ∃ o, t.status = .running ∧ Ended t below o ∧ lw_Q a s o t
/-- the law's own end, with 1 on the stack, nothing written that was there before, its room as the claim has it -/
theorem lw_ret {p : Program} {l : Launch} {e : Env} {s : State} {m : MethodId} {below : List Frame} {meth : Method} {c : Code} {b : Nat} (hx : p.tables.exec = Jvm.exec) (hb : c.code = code) (hr : meth.sig.returnType = ret) (hlocks : meth.locks = false) {pc : Nat} {H : Heap} {ls : Array Slot} (hdg : decode code pc = .ok (.ireturn, 1)) : W p l e room_1 s m #[Value.ref b] below meth c H [] 601024 7293034 (lw_Z below #[Value.ref b] s) (F0 m pc ls [.int 1]) := by
  intro T hT X
  obtain ⟨fs, hret, hrun, hended, hW, hframe⟩ := X.leave (v := some (.int 1)) (hlocks := hlocks) (fun h => by rw [hr] at h; cases h)
  have hmeth' : T.vm.method? m = some meth := X.method'
  refine ⟨T.setFrames fs, ?_, .returned (some (.int 1)), hrun, hended, rfl, ⟨_, rfl⟩, hW, hframe⟩
  jvm_step X.here [X.here.top, hx, hb, hdg, hmeth', hr, ret, narrow_b1]
  (try refine ⟨rfl, ?_⟩); (try refine ⟨rfl, ?_⟩)
  first | (intro acts; rw [hret _ acts rfl rfl rfl]) | rw [hret _ _ rfl rfl rfl]
  exact Steps.refl _
/-- what holds at the law's entry: the machine, the code, the tables' words (any of lw_tbl by 'hts w (by decide +kernel)'), the script of L ints xs at the cell b, what the Statement gives of the start (any of its parts by flat_of_before) -/
def lw_At (p : Program) (s : State) (m : MethodId) (meth : Method) (c : Code) (b L : Nat) (xs : Nat → Int32) : Prop :=
  p.tables.exec = Jvm.exec ∧ c.code = code ∧ meth.sig.returnType = ret ∧ c.maxLocals = 7 ∧ s.vm.findClass R_law = some m.cls ∧ (∀ w ∈ lw_tbl, w.before #[Value.ref b] s = true) ∧ va_X b L xs s s.heap ∧ b < s.heap.size ∧ meth.locks = false ∧ (Jvm.Cond.and given_1 narrow_1).before #[Value.ref b] s = true
theorem tw_612 : Cond.classLink RL 8 RX6 ∈ lw_T := lw_it (i := 21) (by decide +kernel) (by decide +kernel)
theorem tw_613 : Cond.instantiable RX6 14 ∈ lw_T := lw_it (i := 22) (by decide +kernel) (by decide +kernel)
theorem tw_614 : Cond.methodLink RL 22 yX6_init ∈ lw_T := lw_it (i := 23) (by decide +kernel) (by decide +kernel)
theorem tw_615 : Cond.code yX6_init cX6_init 2 none ∈ lw_T := lw_it (i := 25) (by decide +kernel) (by decide +kernel)
theorem tw_616 : Cond.instanceMethod yX6_init ∈ lw_T := lw_it (i := 24) (by decide +kernel) (by decide +kernel)
theorem tw_617 : Cond.classLink RL 23 RX7 ∈ lw_T := lw_it (i := 741) (by decide +kernel) (by decide +kernel)
theorem tw_618 : Cond.instantiable RX7 32 ∈ lw_T := lw_it (i := 742) (by decide +kernel) (by decide +kernel)
theorem tw_619 : Cond.methodLink RL 25 yX7_init ∈ lw_T := lw_it (i := 743) (by decide +kernel) (by decide +kernel)
theorem tw_620 : Cond.code yX7_init cX7_init 1 none ∈ lw_T := lw_it (i := 745) (by decide +kernel) (by decide +kernel)
theorem tw_621 : Cond.instanceMethod yX7_init ∈ lw_T := lw_it (i := 744) (by decide +kernel) (by decide +kernel)
theorem tw_622 : Cond.code yX6_object cX6_object 2 (some .int) ∈ lw_T := lw_it (i := 222) (by decide +kernel) (by decide +kernel)
theorem tw_623 : Cond.methodLink RL 26 yX6_object ∈ lw_T := lw_it (i := 219) (by decide +kernel) (by decide +kernel)
theorem tw_624 : Cond.instanceMethod yX6_object ∈ lw_T := lw_it (i := 220) (by decide +kernel) (by decide +kernel)
theorem tw_625 : Cond.selects RX6 yX6_object yX6_object ∈ lw_T := lw_it (i := 221) (by decide +kernel) (by decide +kernel)
theorem tw_626 : Cond.code yX7_object cX7_object 2 (some .int) ∈ lw_T := lw_it (i := 851) (by decide +kernel) (by decide +kernel)
theorem tw_627 : Cond.methodLink RL 30 yX7_object ∈ lw_T := lw_it (i := 848) (by decide +kernel) (by decide +kernel)
theorem tw_628 : Cond.instanceMethod yX7_object ∈ lw_T := lw_it (i := 849) (by decide +kernel) (by decide +kernel)
theorem tw_629 : Cond.selects RX7 yX7_object yX7_object ∈ lw_T := lw_it (i := 850) (by decide +kernel) (by decide +kernel)
theorem tw_630 : Cond.code yX6_set cX6_set 4 (some .int) ∈ lw_T := lw_it (i := 226) (by decide +kernel) (by decide +kernel)
theorem tw_631 : Cond.methodLink RL 31 yX6_set ∈ lw_T := lw_it (i := 223) (by decide +kernel) (by decide +kernel)
theorem tw_632 : Cond.instanceMethod yX6_set ∈ lw_T := lw_it (i := 224) (by decide +kernel) (by decide +kernel)
theorem tw_633 : Cond.selects RX6 yX6_set yX6_set ∈ lw_T := lw_it (i := 225) (by decide +kernel) (by decide +kernel)
theorem tw_634 : Cond.code yX7_set cX7_set 4 (some .int) ∈ lw_T := lw_it (i := 855) (by decide +kernel) (by decide +kernel)
theorem tw_635 : Cond.methodLink RL 34 yX7_set ∈ lw_T := lw_it (i := 852) (by decide +kernel) (by decide +kernel)
theorem tw_636 : Cond.instanceMethod yX7_set ∈ lw_T := lw_it (i := 853) (by decide +kernel) (by decide +kernel)
theorem tw_637 : Cond.selects RX7 yX7_set yX7_set ∈ lw_T := lw_it (i := 854) (by decide +kernel) (by decide +kernel)
theorem tw_638 : Cond.code yX6_user cX6_user 1 (some .int) ∈ lw_T := lw_it (i := 237) (by decide +kernel) (by decide +kernel)
theorem tw_639 : Cond.methodLink RL 35 yX6_user ∈ lw_T := lw_it (i := 234) (by decide +kernel) (by decide +kernel)
theorem tw_640 : Cond.instanceMethod yX6_user ∈ lw_T := lw_it (i := 235) (by decide +kernel) (by decide +kernel)
theorem tw_641 : Cond.selects RX6 yX6_user yX6_user ∈ lw_T := lw_it (i := 236) (by decide +kernel) (by decide +kernel)
theorem tw_642 : Cond.code yX7_user cX7_user 1 (some .int) ∈ lw_T := lw_it (i := 866) (by decide +kernel) (by decide +kernel)
theorem tw_643 : Cond.methodLink RL 38 yX7_user ∈ lw_T := lw_it (i := 863) (by decide +kernel) (by decide +kernel)
theorem tw_644 : Cond.instanceMethod yX7_user ∈ lw_T := lw_it (i := 864) (by decide +kernel) (by decide +kernel)
theorem tw_645 : Cond.selects RX7 yX7_user yX7_user ∈ lw_T := lw_it (i := 865) (by decide +kernel) (by decide +kernel)
theorem tw_646 : Cond.constantLong RL 39 4294967295 ∈ lw_T := lw_it (i := 1101) (by decide +kernel) (by decide +kernel)
theorem tw_647 : Cond.code yX6_type cX6_type 5 (some .int) ∈ lw_T := lw_it (i := 260) (by decide +kernel) (by decide +kernel)
theorem tw_648 : Cond.methodLink RL 41 yX6_type ∈ lw_T := lw_it (i := 257) (by decide +kernel) (by decide +kernel)
theorem tw_649 : Cond.instanceMethod yX6_type ∈ lw_T := lw_it (i := 258) (by decide +kernel) (by decide +kernel)
theorem tw_650 : Cond.selects RX6 yX6_type yX6_type ∈ lw_T := lw_it (i := 259) (by decide +kernel) (by decide +kernel)
theorem tw_651 : Cond.code yX7_type cX7_type 5 (some .int) ∈ lw_T := lw_it (i := 870) (by decide +kernel) (by decide +kernel)
theorem tw_652 : Cond.methodLink RL 45 yX7_type ∈ lw_T := lw_it (i := 867) (by decide +kernel) (by decide +kernel)
theorem tw_653 : Cond.instanceMethod yX7_type ∈ lw_T := lw_it (i := 868) (by decide +kernel) (by decide +kernel)
theorem tw_654 : Cond.selects RX7 yX7_type yX7_type ∈ lw_T := lw_it (i := 869) (by decide +kernel) (by decide +kernel)
theorem tw_655 : Cond.code yX6_rule cX6_rule 3 (some .int) ∈ lw_T := lw_it (i := 264) (by decide +kernel) (by decide +kernel)
theorem tw_656 : Cond.methodLink RL 46 yX6_rule ∈ lw_T := lw_it (i := 261) (by decide +kernel) (by decide +kernel)
theorem tw_657 : Cond.instanceMethod yX6_rule ∈ lw_T := lw_it (i := 262) (by decide +kernel) (by decide +kernel)
theorem tw_658 : Cond.selects RX6 yX6_rule yX6_rule ∈ lw_T := lw_it (i := 263) (by decide +kernel) (by decide +kernel)
theorem tw_659 : Cond.code yX7_rule cX7_rule 2 (some .int) ∈ lw_T := lw_it (i := 878) (by decide +kernel) (by decide +kernel)
theorem tw_660 : Cond.methodLink RL 50 yX7_rule ∈ lw_T := lw_it (i := 875) (by decide +kernel) (by decide +kernel)
theorem tw_661 : Cond.instanceMethod yX7_rule ∈ lw_T := lw_it (i := 876) (by decide +kernel) (by decide +kernel)
theorem tw_662 : Cond.selects RX7 yX7_rule yX7_rule ∈ lw_T := lw_it (i := 877) (by decide +kernel) (by decide +kernel)
theorem tw_663 : Cond.code yX6_place cX6_place 1 (some .int) ∈ lw_T := lw_it (i := 441) (by decide +kernel) (by decide +kernel)
theorem tw_664 : Cond.methodLink RL 51 yX6_place ∈ lw_T := lw_it (i := 438) (by decide +kernel) (by decide +kernel)
theorem tw_665 : Cond.instanceMethod yX6_place ∈ lw_T := lw_it (i := 439) (by decide +kernel) (by decide +kernel)
theorem tw_666 : Cond.selects RX6 yX6_place yX6_place ∈ lw_T := lw_it (i := 440) (by decide +kernel) (by decide +kernel)
theorem tw_667 : Cond.code yX7_place cX7_place 1 (some .int) ∈ lw_T := lw_it (i := 874) (by decide +kernel) (by decide +kernel)
theorem tw_668 : Cond.methodLink RL 54 yX7_place ∈ lw_T := lw_it (i := 871) (by decide +kernel) (by decide +kernel)
theorem tw_669 : Cond.instanceMethod yX7_place ∈ lw_T := lw_it (i := 872) (by decide +kernel) (by decide +kernel)
theorem tw_670 : Cond.selects RX7 yX7_place yX7_place ∈ lw_T := lw_it (i := 873) (by decide +kernel) (by decide +kernel)
theorem tw_671 : Cond.code yX6_close cX6_close 4 (some .int) ∈ lw_T := lw_it (i := 445) (by decide +kernel) (by decide +kernel)
theorem tw_672 : Cond.methodLink RL 55 yX6_close ∈ lw_T := lw_it (i := 442) (by decide +kernel) (by decide +kernel)
theorem tw_673 : Cond.instanceMethod yX6_close ∈ lw_T := lw_it (i := 443) (by decide +kernel) (by decide +kernel)
theorem tw_674 : Cond.selects RX6 yX6_close yX6_close ∈ lw_T := lw_it (i := 444) (by decide +kernel) (by decide +kernel)
theorem tw_675 : Cond.code yX7_close cX7_close 4 (some .int) ∈ lw_T := lw_it (i := 975) (by decide +kernel) (by decide +kernel)
theorem tw_676 : Cond.methodLink RL 59 yX7_close ∈ lw_T := lw_it (i := 972) (by decide +kernel) (by decide +kernel)
theorem tw_677 : Cond.instanceMethod yX7_close ∈ lw_T := lw_it (i := 973) (by decide +kernel) (by decide +kernel)
theorem tw_678 : Cond.selects RX7 yX7_close yX7_close ∈ lw_T := lw_it (i := 974) (by decide +kernel) (by decide +kernel)
theorem tw_679 : Cond.code yX6_seen cX6_seen 3 (some .int) ∈ lw_T := lw_it (i := 449) (by decide +kernel) (by decide +kernel)
theorem tw_680 : Cond.methodLink RL 60 yX6_seen ∈ lw_T := lw_it (i := 446) (by decide +kernel) (by decide +kernel)
theorem tw_681 : Cond.instanceMethod yX6_seen ∈ lw_T := lw_it (i := 447) (by decide +kernel) (by decide +kernel)
theorem tw_682 : Cond.selects RX6 yX6_seen yX6_seen ∈ lw_T := lw_it (i := 448) (by decide +kernel) (by decide +kernel)
theorem tw_683 : Cond.code yX7_seen cX7_seen 3 (some .int) ∈ lw_T := lw_it (i := 979) (by decide +kernel) (by decide +kernel)
theorem tw_684 : Cond.methodLink RL 63 yX7_seen ∈ lw_T := lw_it (i := 976) (by decide +kernel) (by decide +kernel)
theorem tw_685 : Cond.instanceMethod yX7_seen ∈ lw_T := lw_it (i := 977) (by decide +kernel) (by decide +kernel)
theorem tw_686 : Cond.selects RX7 yX7_seen yX7_seen ∈ lw_T := lw_it (i := 978) (by decide +kernel) (by decide +kernel)
theorem tw_687 : Cond.code yX6_ask cX6_ask 4 (some .int) ∈ lw_T := lw_it (i := 453) (by decide +kernel) (by decide +kernel)
theorem tw_688 : Cond.methodLink RL 64 yX6_ask ∈ lw_T := lw_it (i := 450) (by decide +kernel) (by decide +kernel)
theorem tw_689 : Cond.instanceMethod yX6_ask ∈ lw_T := lw_it (i := 451) (by decide +kernel) (by decide +kernel)
theorem tw_690 : Cond.selects RX6 yX6_ask yX6_ask ∈ lw_T := lw_it (i := 452) (by decide +kernel) (by decide +kernel)
theorem tw_691 : Cond.code yX7_ask cX7_ask 4 (some .int) ∈ lw_T := lw_it (i := 983) (by decide +kernel) (by decide +kernel)
theorem tw_692 : Cond.methodLink RL 67 yX7_ask ∈ lw_T := lw_it (i := 980) (by decide +kernel) (by decide +kernel)
theorem tw_693 : Cond.instanceMethod yX7_ask ∈ lw_T := lw_it (i := 981) (by decide +kernel) (by decide +kernel)
theorem tw_694 : Cond.selects RX7 yX7_ask yX7_ask ∈ lw_T := lw_it (i := 982) (by decide +kernel) (by decide +kernel)
theorem tw_695 : Cond.code yX6_found cX6_found 2 (some .int) ∈ lw_T := lw_it (i := 482) (by decide +kernel) (by decide +kernel)
theorem tw_696 : Cond.methodLink RL 68 yX6_found ∈ lw_T := lw_it (i := 479) (by decide +kernel) (by decide +kernel)
theorem tw_697 : Cond.instanceMethod yX6_found ∈ lw_T := lw_it (i := 480) (by decide +kernel) (by decide +kernel)
theorem tw_698 : Cond.selects RX6 yX6_found yX6_found ∈ lw_T := lw_it (i := 481) (by decide +kernel) (by decide +kernel)
theorem tw_699 : Cond.code yX7_found cX7_found 2 (some .int) ∈ lw_T := lw_it (i := 1011) (by decide +kernel) (by decide +kernel)
theorem tw_700 : Cond.methodLink RL 71 yX7_found ∈ lw_T := lw_it (i := 1008) (by decide +kernel) (by decide +kernel)
theorem tw_701 : Cond.instanceMethod yX7_found ∈ lw_T := lw_it (i := 1009) (by decide +kernel) (by decide +kernel)
theorem tw_702 : Cond.selects RX7 yX7_found yX7_found ∈ lw_T := lw_it (i := 1010) (by decide +kernel) (by decide +kernel)
theorem tw_703 : Cond.methodLink RL 72 yL_value ∈ lw_T := lw_it (i := 606) (by decide +kernel) (by decide +kernel)
theorem tw_704 : Cond.initialized RL ∈ lw_T := lw_it (i := 0) (by decide +kernel) (by decide +kernel)
theorem tw_705 : Cond.static yL_value ∈ lw_T := lw_it (i := 607) (by decide +kernel) (by decide +kernel)
theorem tw_706 : Cond.code yX7_value cX7_value 4 (some .int) ∈ lw_T := lw_it (i := 1027) (by decide +kernel) (by decide +kernel)
theorem tw_707 : Cond.methodLink RL 77 yX7_value ∈ lw_T := lw_it (i := 1024) (by decide +kernel) (by decide +kernel)
theorem tw_708 : Cond.instanceMethod yX7_value ∈ lw_T := lw_it (i := 1025) (by decide +kernel) (by decide +kernel)
theorem tw_709 : Cond.selects RX7 yX7_value yX7_value ∈ lw_T := lw_it (i := 1026) (by decide +kernel) (by decide +kernel)
theorem tw_710 : Cond.code yX7_thrown cX7_thrown 1 (some .int) ∈ lw_T := lw_it (i := 847) (by decide +kernel) (by decide +kernel)
theorem tw_711 : Cond.methodLink RL 78 yX7_thrown ∈ lw_T := lw_it (i := 844) (by decide +kernel) (by decide +kernel)
theorem tw_712 : Cond.instanceMethod yX7_thrown ∈ lw_T := lw_it (i := 845) (by decide +kernel) (by decide +kernel)
theorem tw_713 : Cond.selects RX7 yX7_thrown yX7_thrown ∈ lw_T := lw_it (i := 846) (by decide +kernel) (by decide +kernel)
theorem tw_714 : Cond.methodLink RL 81 yL_sum ∈ lw_T := lw_it (i := 728) (by decide +kernel) (by decide +kernel)
theorem tw_715 : Cond.static yL_sum ∈ lw_T := lw_it (i := 729) (by decide +kernel) (by decide +kernel)
theorem tw_716 : Cond.code yX7_sum_ cX7_sum_ 6 (some .int) ∈ lw_T := lw_it (i := 1066) (by decide +kernel) (by decide +kernel)
theorem tw_717 : Cond.methodLink RL 83 yX7_sum_ ∈ lw_T := lw_it (i := 1063) (by decide +kernel) (by decide +kernel)
theorem tw_718 : Cond.instanceMethod yX7_sum_ ∈ lw_T := lw_it (i := 1064) (by decide +kernel) (by decide +kernel)
theorem tw_719 : Cond.selects RX7 yX7_sum_ yX7_sum_ ∈ lw_T := lw_it (i := 1065) (by decide +kernel) (by decide +kernel)
theorem tw_720 : Cond.code yX6_cell cX6_cell 5 (some .int) ∈ lw_T := lw_it (i := 486) (by decide +kernel) (by decide +kernel)
theorem tw_721 : Cond.methodLink RL 84 yX6_cell ∈ lw_T := lw_it (i := 483) (by decide +kernel) (by decide +kernel)
theorem tw_722 : Cond.instanceMethod yX6_cell ∈ lw_T := lw_it (i := 484) (by decide +kernel) (by decide +kernel)
theorem tw_723 : Cond.selects RX6 yX6_cell yX6_cell ∈ lw_T := lw_it (i := 485) (by decide +kernel) (by decide +kernel)
theorem tw_724 : Cond.code yX7_cell cX7_cell 8 (some .int) ∈ lw_T := lw_it (i := 1015) (by decide +kernel) (by decide +kernel)
theorem tw_725 : Cond.methodLink RL 88 yX7_cell ∈ lw_T := lw_it (i := 1012) (by decide +kernel) (by decide +kernel)
theorem tw_726 : Cond.instanceMethod yX7_cell ∈ lw_T := lw_it (i := 1013) (by decide +kernel) (by decide +kernel)
theorem tw_727 : Cond.selects RX7 yX7_cell yX7_cell ∈ lw_T := lw_it (i := 1014) (by decide +kernel) (by decide +kernel)
theorem tw_728 : Cond.code yX6_cursor cX6_cursor 3 (some .int) ∈ lw_T := lw_it (i := 494) (by decide +kernel) (by decide +kernel)
theorem tw_729 : Cond.methodLink RL 89 yX6_cursor ∈ lw_T := lw_it (i := 491) (by decide +kernel) (by decide +kernel)
theorem tw_730 : Cond.instanceMethod yX6_cursor ∈ lw_T := lw_it (i := 492) (by decide +kernel) (by decide +kernel)
theorem tw_731 : Cond.selects RX6 yX6_cursor yX6_cursor ∈ lw_T := lw_it (i := 493) (by decide +kernel) (by decide +kernel)
theorem tw_732 : Cond.code yX7_cursor cX7_cursor 3 (some .int) ∈ lw_T := lw_it (i := 1019) (by decide +kernel) (by decide +kernel)
theorem tw_733 : Cond.methodLink RL 92 yX7_cursor ∈ lw_T := lw_it (i := 1016) (by decide +kernel) (by decide +kernel)
theorem tw_734 : Cond.instanceMethod yX7_cursor ∈ lw_T := lw_it (i := 1017) (by decide +kernel) (by decide +kernel)
theorem tw_735 : Cond.selects RX7 yX7_cursor yX7_cursor ∈ lw_T := lw_it (i := 1018) (by decide +kernel) (by decide +kernel)
theorem tw_736 : Cond.code yX6_step cX6_step 3 (some .int) ∈ lw_T := lw_it (i := 503) (by decide +kernel) (by decide +kernel)
theorem tw_737 : Cond.methodLink RL 93 yX6_step ∈ lw_T := lw_it (i := 500) (by decide +kernel) (by decide +kernel)
theorem tw_738 : Cond.instanceMethod yX6_step ∈ lw_T := lw_it (i := 501) (by decide +kernel) (by decide +kernel)
theorem tw_739 : Cond.selects RX6 yX6_step yX6_step ∈ lw_T := lw_it (i := 502) (by decide +kernel) (by decide +kernel)
theorem tw_740 : Cond.code yX7_step cX7_step 3 (some .int) ∈ lw_T := lw_it (i := 1023) (by decide +kernel) (by decide +kernel)
theorem tw_741 : Cond.methodLink RL 96 yX7_step ∈ lw_T := lw_it (i := 1020) (by decide +kernel) (by decide +kernel)
theorem tw_742 : Cond.instanceMethod yX7_step ∈ lw_T := lw_it (i := 1021) (by decide +kernel) (by decide +kernel)
theorem tw_743 : Cond.selects RX7 yX7_step yX7_step ∈ lw_T := lw_it (i := 1022) (by decide +kernel) (by decide +kernel)
theorem tw_744 : Cond.code yX6_solved cX6_solved 4 (some .int) ∈ lw_T := lw_it (i := 511) (by decide +kernel) (by decide +kernel)
theorem tw_745 : Cond.methodLink RL 97 yX6_solved ∈ lw_T := lw_it (i := 508) (by decide +kernel) (by decide +kernel)
theorem tw_746 : Cond.instanceMethod yX6_solved ∈ lw_T := lw_it (i := 509) (by decide +kernel) (by decide +kernel)
theorem tw_747 : Cond.selects RX6 yX6_solved yX6_solved ∈ lw_T := lw_it (i := 510) (by decide +kernel) (by decide +kernel)
theorem tw_748 : Cond.code yX7_solved cX7_solved 4 (some .int) ∈ lw_T := lw_it (i := 1074) (by decide +kernel) (by decide +kernel)
theorem tw_749 : Cond.methodLink RL 100 yX7_solved ∈ lw_T := lw_it (i := 1071) (by decide +kernel) (by decide +kernel)
theorem tw_750 : Cond.instanceMethod yX7_solved ∈ lw_T := lw_it (i := 1072) (by decide +kernel) (by decide +kernel)
theorem tw_751 : Cond.selects RX7 yX7_solved yX7_solved ∈ lw_T := lw_it (i := 1073) (by decide +kernel) (by decide +kernel)
theorem tw_752 : Cond.code yX6_would cX6_would 5 (some .int) ∈ lw_T := lw_it (i := 535) (by decide +kernel) (by decide +kernel)
theorem tw_753 : Cond.methodLink RL 101 yX6_would ∈ lw_T := lw_it (i := 532) (by decide +kernel) (by decide +kernel)
theorem tw_754 : Cond.instanceMethod yX6_would ∈ lw_T := lw_it (i := 533) (by decide +kernel) (by decide +kernel)
theorem tw_755 : Cond.selects RX6 yX6_would yX6_would ∈ lw_T := lw_it (i := 534) (by decide +kernel) (by decide +kernel)
theorem tw_756 : Cond.code yX7_would cX7_would 5 (some .int) ∈ lw_T := lw_it (i := 1078) (by decide +kernel) (by decide +kernel)
theorem tw_757 : Cond.methodLink RL 104 yX7_would ∈ lw_T := lw_it (i := 1075) (by decide +kernel) (by decide +kernel)
theorem tw_758 : Cond.instanceMethod yX7_would ∈ lw_T := lw_it (i := 1076) (by decide +kernel) (by decide +kernel)
theorem tw_759 : Cond.selects RX7 yX7_would yX7_would ∈ lw_T := lw_it (i := 1077) (by decide +kernel) (by decide +kernel)
theorem tw_760 : Cond.code yX6_world cX6_world 6 (some .long) ∈ lw_T := lw_it (i := 575) (by decide +kernel) (by decide +kernel)
theorem tw_761 : Cond.methodLink RL 105 yX6_world ∈ lw_T := lw_it (i := 572) (by decide +kernel) (by decide +kernel)
theorem tw_762 : Cond.instanceMethod yX6_world ∈ lw_T := lw_it (i := 573) (by decide +kernel) (by decide +kernel)
theorem tw_763 : Cond.selects RX6 yX6_world yX6_world ∈ lw_T := lw_it (i := 574) (by decide +kernel) (by decide +kernel)
theorem tw_764 : Cond.code yX7_world cX7_world 16 (some .long) ∈ lw_T := lw_it (i := 1082) (by decide +kernel) (by decide +kernel)
theorem tw_765 : Cond.methodLink RL 109 yX7_world ∈ lw_T := lw_it (i := 1079) (by decide +kernel) (by decide +kernel)
theorem tw_766 : Cond.instanceMethod yX7_world ∈ lw_T := lw_it (i := 1080) (by decide +kernel) (by decide +kernel)
theorem tw_767 : Cond.selects RX7 yX7_world yX7_world ∈ lw_T := lw_it (i := 1081) (by decide +kernel) (by decide +kernel)
theorem tw_768 : Cond.code yX6_rows cX6_rows 3 (some .int) ∈ lw_T := lw_it (i := 589) (by decide +kernel) (by decide +kernel)
theorem tw_769 : Cond.methodLink RL 110 yX6_rows ∈ lw_T := lw_it (i := 586) (by decide +kernel) (by decide +kernel)
theorem tw_770 : Cond.instanceMethod yX6_rows ∈ lw_T := lw_it (i := 587) (by decide +kernel) (by decide +kernel)
theorem tw_771 : Cond.selects RX6 yX6_rows yX6_rows ∈ lw_T := lw_it (i := 588) (by decide +kernel) (by decide +kernel)
theorem tw_772 : Cond.code yX7_rows cX7_rows 3 (some .int) ∈ lw_T := lw_it (i := 1088) (by decide +kernel) (by decide +kernel)
theorem tw_773 : Cond.methodLink RL 113 yX7_rows ∈ lw_T := lw_it (i := 1085) (by decide +kernel) (by decide +kernel)
theorem tw_774 : Cond.instanceMethod yX7_rows ∈ lw_T := lw_it (i := 1086) (by decide +kernel) (by decide +kernel)
theorem tw_775 : Cond.selects RX7 yX7_rows yX7_rows ∈ lw_T := lw_it (i := 1087) (by decide +kernel) (by decide +kernel)
theorem tw_776 : Cond.code yX6_audit cX6_audit 3 (some .int) ∈ lw_T := lw_it (i := 597) (by decide +kernel) (by decide +kernel)
theorem tw_777 : Cond.methodLink RL 114 yX6_audit ∈ lw_T := lw_it (i := 594) (by decide +kernel) (by decide +kernel)
theorem tw_778 : Cond.instanceMethod yX6_audit ∈ lw_T := lw_it (i := 595) (by decide +kernel) (by decide +kernel)
theorem tw_779 : Cond.selects RX6 yX6_audit yX6_audit ∈ lw_T := lw_it (i := 596) (by decide +kernel) (by decide +kernel)
theorem tw_780 : Cond.code yX7_audit cX7_audit 3 (some .int) ∈ lw_T := lw_it (i := 1092) (by decide +kernel) (by decide +kernel)
theorem tw_781 : Cond.methodLink RL 117 yX7_audit ∈ lw_T := lw_it (i := 1089) (by decide +kernel) (by decide +kernel)
theorem tw_782 : Cond.instanceMethod yX7_audit ∈ lw_T := lw_it (i := 1090) (by decide +kernel) (by decide +kernel)
theorem tw_783 : Cond.selects RX7 yX7_audit yX7_audit ∈ lw_T := lw_it (i := 1091) (by decide +kernel) (by decide +kernel)
theorem tw_784 : Cond.code yX6_told cX6_told 2 (some .int) ∈ lw_T := lw_it (i := 601) (by decide +kernel) (by decide +kernel)
theorem tw_785 : Cond.methodLink RL 118 yX6_told ∈ lw_T := lw_it (i := 598) (by decide +kernel) (by decide +kernel)
theorem tw_786 : Cond.instanceMethod yX6_told ∈ lw_T := lw_it (i := 599) (by decide +kernel) (by decide +kernel)
theorem tw_787 : Cond.selects RX6 yX6_told yX6_told ∈ lw_T := lw_it (i := 600) (by decide +kernel) (by decide +kernel)
theorem tw_788 : Cond.code yX7_told cX7_told 2 (some .int) ∈ lw_T := lw_it (i := 1096) (by decide +kernel) (by decide +kernel)
theorem tw_789 : Cond.methodLink RL 121 yX7_told ∈ lw_T := lw_it (i := 1093) (by decide +kernel) (by decide +kernel)
theorem tw_790 : Cond.instanceMethod yX7_told ∈ lw_T := lw_it (i := 1094) (by decide +kernel) (by decide +kernel)
theorem tw_791 : Cond.selects RX7 yX7_told yX7_told ∈ lw_T := lw_it (i := 1095) (by decide +kernel) (by decide +kernel)
theorem tw_792 : Cond.code yX6_clear cX6_clear 1 none ∈ lw_T := lw_it (i := 605) (by decide +kernel) (by decide +kernel)
theorem tw_793 : Cond.methodLink RL 122 yX6_clear ∈ lw_T := lw_it (i := 602) (by decide +kernel) (by decide +kernel)
theorem tw_794 : Cond.instanceMethod yX6_clear ∈ lw_T := lw_it (i := 603) (by decide +kernel) (by decide +kernel)
theorem tw_795 : Cond.selects RX6 yX6_clear yX6_clear ∈ lw_T := lw_it (i := 604) (by decide +kernel) (by decide +kernel)
theorem tw_796 : Cond.code yX7_clear cX7_clear 1 none ∈ lw_T := lw_it (i := 1100) (by decide +kernel) (by decide +kernel)
theorem tw_797 : Cond.methodLink RL 125 yX7_clear ∈ lw_T := lw_it (i := 1097) (by decide +kernel) (by decide +kernel)
theorem tw_798 : Cond.instanceMethod yX7_clear ∈ lw_T := lw_it (i := 1098) (by decide +kernel) (by decide +kernel)
theorem tw_799 : Cond.selects RX7 yX7_clear yX7_clear ∈ lw_T := lw_it (i := 1099) (by decide +kernel) (by decide +kernel)
theorem lc_value : Cond.codeWith yL_value cL_value 6 (some .int) hhL ∈ lw_T := lw_it (i := 608) (by decide +kernel) (by decide +kernel)
theorem lc_sum : Cond.codeWith yL_sum cL_sum 6 (some .int) hhL ∈ lw_T := lw_it (i := 730) (by decide +kernel) (by decide +kernel)
theorem so_lwr {p : Program} {l : Launch} {e : Env} {s : State} {m : MethodId} {b : Nat} {below : List Frame} {meth : Method} {c : Code} {D : va_G} {A : Nat → Prop} {EX : (Nat → Nat) → (Nat → ClassId) → Nat → Nat × Nat → Prop} {pc : Nat} (X : mm_cx p room_1 s m #[Value.ref b] c code RL lw_T A D pcl 7) (hAs : ∀ q, A q → s.heap.size ≤ q) (hr : meth.sig.returnType = ret) (hlk : meth.locks = false) (hd : decode code pc = .ok (.ireturn, 1)) : mm_SK p l e room_1 s m #[Value.ref b] below meth c (lw_Z below #[Value.ref b] s) D pcl A 7 EX pc mm_lwr := by
  intro lv st μ κ h ad cA H locs ls hE hR hL h1 h2
  have h : st = [.int 1] := h
  subst h
  refine W.widen h1 h2 ?_
  exact va_forget (fun q hq => hAs _ (hR.2.2.1.2.2 q hq)) (lw_ret X.1 X.2.1 hr hlk hd)
def pbL (L : Nat) (xs : Nat → Int32) (d : Nat) (J : mm_J) (C : mm_C) : mm_J := fun t => match t with
  | 0 => mm_new 6 14 (601024, 7293034) <| mm_dup <| mm_can 56 1 80 5135 (601024, 7293034) C <| mm_sta 1 <| mm_new 7 32 (601024, 7293034) <| mm_dup <| mm_can 94 1 15 4036 (601024, 7293034) C <| mm_sta 2 <| mm_cst (.int 1) <| mm_nar .long (601024, 7293034) <| mm_sta 3 <| mm_cst (.int 0) <| mm_sti 4 <| mm_go 1 J
  | 1 => mm_ldi 4 <| mm_lda 0 <| mm_sle L <| mm_cst (.int 5) <| mm_ii (fun x y => x - y) <| mm_icm .gt 29 J <| mm_lda 0 <| mm_ldi 4 <| mm_sld L xs <| mm_cst (.int 31) <| mm_ii (fun x y => x &&& y) <| mm_tsw J 0 [28, 2, 3, 4, 5, 6, 7, 8, 9, 10, 11, 12, 15, 18, 19, 20, 21, 22, 23, 24, 25, 26, 27]
  | 2 => mm_lda 1 <| mm_cav 57 1 6 C <| mm_lda 2 <| mm_cav 100 1 7 C <| mm_icm .eq 28 J <| mm_bad
  | 3 => mm_lda 1 <| mm_lda 0 <| mm_ldi 4 <| mm_cst (.int 1) <| mm_ii (fun x y => x + y) <| mm_sld L xs <| mm_lda 0 <| mm_ldi 4 <| mm_cst (.int 2) <| mm_ii (fun x y => x + y) <| mm_sld L xs <| mm_lda 0 <| mm_ldi 4 <| mm_cst (.int 3) <| mm_ii (fun x y => x + y) <| mm_sld L xs <| mm_cav 58 4 6 C <| mm_lda 2 <| mm_lda 0 <| mm_ldi 4 <| mm_cst (.int 1) <| mm_ii (fun x y => x + y) <| mm_sld L xs <| mm_lda 0 <| mm_ldi 4 <| mm_cst (.int 2) <| mm_ii (fun x y => x + y) <| mm_sld L xs <| mm_lda 0 <| mm_ldi 4 <| mm_cst (.int 3) <| mm_ii (fun x y => x + y) <| mm_sld L xs <| mm_cav 101 4 7 C <| mm_icm .eq 28 J <| mm_bad
  | 4 => mm_lda 1 <| mm_cav 59 1 6 C <| mm_lda 2 <| mm_cav 102 1 7 C <| mm_icm .eq 28 J <| mm_bad
  | 5 => mm_lda 1 <| mm_lda 0 <| mm_ldi 4 <| mm_cst (.int 1) <| mm_ii (fun x y => x + y) <| mm_sld L xs <| mm_i2l <| mm_cst (.int 32) <| mm_ls (fun x y => x <<< (y.toInt64 &&& 63)) <| mm_lda 0 <| mm_ldi 4 <| mm_cst (.int 2) <| mm_ii (fun x y => x + y) <| mm_sld L xs <| mm_i2l <| mm_cst (.long 4294967295) <| mm_ll (fun x y => x &&& y) <| mm_ll (fun x y => x ||| y) <| mm_lda 0 <| mm_ldi 4 <| mm_cst (.int 3) <| mm_ii (fun x y => x + y) <| mm_sld L xs <| mm_cav 60 3 6 C <| mm_lda 2 <| mm_lda 0 <| mm_ldi 4 <| mm_cst (.int 1) <| mm_ii (fun x y => x + y) <| mm_sld L xs <| mm_i2l <| mm_cst (.int 32) <| mm_ls (fun x y => x <<< (y.toInt64 &&& 63)) <| mm_lda 0 <| mm_ldi 4 <| mm_cst (.int 2) <| mm_ii (fun x y => x + y) <| mm_sld L xs <| mm_i2l <| mm_cst (.long 4294967295) <| mm_ll (fun x y => x &&& y) <| mm_ll (fun x y => x ||| y) <| mm_lda 0 <| mm_ldi 4 <| mm_cst (.int 3) <| mm_ii (fun x y => x + y) <| mm_sld L xs <| mm_cav 103 3 7 C <| mm_icm .eq 28 J <| mm_bad
  | 6 => mm_lda 1 <| mm_lda 0 <| mm_ldi 4 <| mm_cst (.int 1) <| mm_ii (fun x y => x + y) <| mm_sld L xs <| mm_cav 61 2 6 C <| mm_lda 2 <| mm_lda 0 <| mm_ldi 4 <| mm_cst (.int 1) <| mm_ii (fun x y => x + y) <| mm_sld L xs <| mm_cav 131 2 7 C <| mm_icm .eq 28 J <| mm_bad
  | 7 => mm_lda 1 <| mm_cav 62 1 6 C <| mm_lda 2 <| mm_cav 122 1 7 C <| mm_icm .eq 28 J <| mm_bad
  | 8 => mm_lda 1 <| mm_lda 0 <| mm_ldi 4 <| mm_cst (.int 1) <| mm_ii (fun x y => x + y) <| mm_sld L xs <| mm_lda 0 <| mm_ldi 4 <| mm_cst (.int 2) <| mm_ii (fun x y => x + y) <| mm_sld L xs <| mm_cav 63 3 6 C <| mm_lda 2 <| mm_lda 0 <| mm_ldi 4 <| mm_cst (.int 1) <| mm_ii (fun x y => x + y) <| mm_sld L xs <| mm_lda 0 <| mm_ldi 4 <| mm_cst (.int 2) <| mm_ii (fun x y => x + y) <| mm_sld L xs <| mm_cav 132 3 7 C <| mm_icm .eq 28 J <| mm_bad
  | 9 => mm_lda 1 <| mm_lda 0 <| mm_ldi 4 <| mm_cst (.int 1) <| mm_ii (fun x y => x + y) <| mm_sld L xs <| mm_lda 0 <| mm_ldi 4 <| mm_cst (.int 2) <| mm_ii (fun x y => x + y) <| mm_sld L xs <| mm_cav 64 3 6 C <| mm_lda 2 <| mm_lda 0 <| mm_ldi 4 <| mm_cst (.int 1) <| mm_ii (fun x y => x + y) <| mm_sld L xs <| mm_lda 0 <| mm_ldi 4 <| mm_cst (.int 2) <| mm_ii (fun x y => x + y) <| mm_sld L xs <| mm_cav 133 3 7 C <| mm_icm .eq 28 J <| mm_bad
  | 10 => mm_lda 1 <| mm_lda 0 <| mm_ldi 4 <| mm_cst (.int 1) <| mm_ii (fun x y => x + y) <| mm_sld L xs <| mm_cav 65 2 6 C <| mm_lda 2 <| mm_lda 0 <| mm_ldi 4 <| mm_cst (.int 1) <| mm_ii (fun x y => x + y) <| mm_sld L xs <| mm_cav 136 2 7 C <| mm_icm .eq 28 J <| mm_bad
  | 11 => mm_lda 1 <| mm_lda 0 <| mm_ldi 4 <| mm_cst (.int 1) <| mm_ii (fun x y => x + y) <| mm_sld L xs <| mm_cav 66 2 6 C <| mm_lda 2 <| mm_lda 0 <| mm_ldi 4 <| mm_cst (.int 1) <| mm_ii (fun x y => x + y) <| mm_sld L xs <| mm_cav 137 2 7 C <| mm_icm .eq 28 J <| mm_bad
  | 12 => mm_lda 1 <| mm_lda 0 <| mm_ldi 4 <| mm_cst (.int 1) <| mm_ii (fun x y => x + y) <| mm_sld L xs <| mm_lda 0 <| mm_ldi 4 <| mm_cst (.int 2) <| mm_ii (fun x y => x + y) <| mm_sld L xs <| mm_lda 0 <| mm_ldi 4 <| mm_cst (.int 3) <| mm_ii (fun x y => x + y) <| mm_sld L xs <| mm_lda 3 <| mm_cal (fun as μ Q => Xv (d + 5) vb_value 5 as μ Q) (601024, 7293034) <| mm_sti 5 <| mm_lda 2 <| mm_lda 0 <| mm_ldi 4 <| mm_cst (.int 1) <| mm_ii (fun x y => x + y) <| mm_sld L xs <| mm_lda 0 <| mm_ldi 4 <| mm_cst (.int 2) <| mm_ii (fun x y => x + y) <| mm_sld L xs <| mm_lda 0 <| mm_ldi 4 <| mm_cst (.int 3) <| mm_ii (fun x y => x + y) <| mm_sld L xs <| mm_cav 149 4 7 C <| mm_sti 6 <| mm_lda 2 <| mm_cav 95 1 7 C <| mm_ldi 5 <| mm_icm .eq 13 J <| mm_bad
  | 13 => mm_ldi 5 <| mm_ifc .ne 14 J <| mm_lda 3 <| mm_cst (.int 0) <| mm_lld <| mm_ldi 6 <| mm_i2l <| mm_cmp <| mm_ifc .eq 14 J <| mm_bad
  | 14 => mm_go 28 J
  | 15 => mm_lda 1 <| mm_lda 0 <| mm_ldi 4 <| mm_cst (.int 1) <| mm_ii (fun x y => x + y) <| mm_sld L xs <| mm_lda 0 <| mm_ldi 4 <| mm_cst (.int 2) <| mm_ii (fun x y => x + y) <| mm_sld L xs <| mm_lda 0 <| mm_ldi 4 <| mm_cst (.int 3) <| mm_ii (fun x y => x + y) <| mm_sld L xs <| mm_lda 3 <| mm_cal (fun as μ Q => Xv (d + 5) vb_sum 4 as μ Q) (601024, 7293034) <| mm_sti 5 <| mm_lda 2 <| mm_lda 0 <| mm_ldi 4 <| mm_cst (.int 1) <| mm_ii (fun x y => x + y) <| mm_sld L xs <| mm_lda 0 <| mm_ldi 4 <| mm_cst (.int 2) <| mm_ii (fun x y => x + y) <| mm_sld L xs <| mm_lda 0 <| mm_ldi 4 <| mm_cst (.int 3) <| mm_ii (fun x y => x + y) <| mm_sld L xs <| mm_cav 150 4 7 C <| mm_sti 6 <| mm_lda 2 <| mm_cav 95 1 7 C <| mm_ldi 5 <| mm_icm .eq 16 J <| mm_bad
  | 16 => mm_ldi 5 <| mm_ifc .ne 17 J <| mm_lda 3 <| mm_cst (.int 0) <| mm_lld <| mm_ldi 6 <| mm_i2l <| mm_cmp <| mm_ifc .eq 17 J <| mm_bad
  | 17 => mm_go 28 J
  | 18 => mm_lda 1 <| mm_lda 0 <| mm_ldi 4 <| mm_cst (.int 1) <| mm_ii (fun x y => x + y) <| mm_sld L xs <| mm_lda 0 <| mm_ldi 4 <| mm_cst (.int 2) <| mm_ii (fun x y => x + y) <| mm_sld L xs <| mm_lda 0 <| mm_ldi 4 <| mm_cst (.int 3) <| mm_ii (fun x y => x + y) <| mm_sld L xs <| mm_lda 0 <| mm_ldi 4 <| mm_cst (.int 4) <| mm_ii (fun x y => x + y) <| mm_sld L xs <| mm_cav 69 5 6 C <| mm_lda 2 <| mm_lda 0 <| mm_ldi 4 <| mm_cst (.int 1) <| mm_ii (fun x y => x + y) <| mm_sld L xs <| mm_lda 0 <| mm_ldi 4 <| mm_cst (.int 2) <| mm_ii (fun x y => x + y) <| mm_sld L xs <| mm_lda 0 <| mm_ldi 4 <| mm_cst (.int 3) <| mm_ii (fun x y => x + y) <| mm_sld L xs <| mm_lda 0 <| mm_ldi 4 <| mm_cst (.int 4) <| mm_ii (fun x y => x + y) <| mm_sld L xs <| mm_cav 138 5 7 C <| mm_icm .eq 28 J <| mm_bad
  | 19 => mm_lda 1 <| mm_lda 0 <| mm_ldi 4 <| mm_cst (.int 1) <| mm_ii (fun x y => x + y) <| mm_sld L xs <| mm_cav 70 2 6 C <| mm_lda 2 <| mm_lda 0 <| mm_ldi 4 <| mm_cst (.int 1) <| mm_ii (fun x y => x + y) <| mm_sld L xs <| mm_cav 139 2 7 C <| mm_icm .eq 28 J <| mm_bad
  | 20 => mm_lda 1 <| mm_lda 0 <| mm_ldi 4 <| mm_cst (.int 1) <| mm_ii (fun x y => x + y) <| mm_sld L xs <| mm_cav 71 2 6 C <| mm_lda 2 <| mm_lda 0 <| mm_ldi 4 <| mm_cst (.int 1) <| mm_ii (fun x y => x + y) <| mm_sld L xs <| mm_cav 140 2 7 C <| mm_icm .eq 28 J <| mm_bad
  | 21 => mm_lda 1 <| mm_lda 0 <| mm_ldi 4 <| mm_cst (.int 1) <| mm_ii (fun x y => x + y) <| mm_sld L xs <| mm_lda 0 <| mm_ldi 4 <| mm_cst (.int 2) <| mm_ii (fun x y => x + y) <| mm_sld L xs <| mm_lda 0 <| mm_ldi 4 <| mm_cst (.int 3) <| mm_ii (fun x y => x + y) <| mm_sld L xs <| mm_cav 72 4 6 C <| mm_lda 2 <| mm_lda 0 <| mm_ldi 4 <| mm_cst (.int 1) <| mm_ii (fun x y => x + y) <| mm_sld L xs <| mm_lda 0 <| mm_ldi 4 <| mm_cst (.int 2) <| mm_ii (fun x y => x + y) <| mm_sld L xs <| mm_lda 0 <| mm_ldi 4 <| mm_cst (.int 3) <| mm_ii (fun x y => x + y) <| mm_sld L xs <| mm_cav 151 4 7 C <| mm_icm .eq 28 J <| mm_bad
  | 22 => mm_lda 1 <| mm_lda 0 <| mm_ldi 4 <| mm_cst (.int 1) <| mm_ii (fun x y => x + y) <| mm_sld L xs <| mm_lda 0 <| mm_ldi 4 <| mm_cst (.int 2) <| mm_ii (fun x y => x + y) <| mm_sld L xs <| mm_lda 0 <| mm_ldi 4 <| mm_cst (.int 3) <| mm_ii (fun x y => x + y) <| mm_sld L xs <| mm_lda 0 <| mm_ldi 4 <| mm_cst (.int 4) <| mm_ii (fun x y => x + y) <| mm_sld L xs <| mm_cav 73 5 6 C <| mm_lda 2 <| mm_lda 0 <| mm_ldi 4 <| mm_cst (.int 1) <| mm_ii (fun x y => x + y) <| mm_sld L xs <| mm_lda 0 <| mm_ldi 4 <| mm_cst (.int 2) <| mm_ii (fun x y => x + y) <| mm_sld L xs <| mm_lda 0 <| mm_ldi 4 <| mm_cst (.int 3) <| mm_ii (fun x y => x + y) <| mm_sld L xs <| mm_lda 0 <| mm_ldi 4 <| mm_cst (.int 4) <| mm_ii (fun x y => x + y) <| mm_sld L xs <| mm_cav 152 5 7 C <| mm_icm .eq 28 J <| mm_bad
  | 23 => mm_lda 1 <| mm_lda 0 <| mm_ldi 4 <| mm_cst (.int 1) <| mm_ii (fun x y => x + y) <| mm_sld L xs <| mm_lda 0 <| mm_ldi 4 <| mm_cst (.int 2) <| mm_ii (fun x y => x + y) <| mm_sld L xs <| mm_lda 0 <| mm_ldi 4 <| mm_cst (.int 3) <| mm_ii (fun x y => x + y) <| mm_sld L xs <| mm_lda 0 <| mm_ldi 4 <| mm_cst (.int 4) <| mm_ii (fun x y => x + y) <| mm_sld L xs <| mm_cav 74 5 6 C <| mm_lda 2 <| mm_lda 0 <| mm_ldi 4 <| mm_cst (.int 1) <| mm_ii (fun x y => x + y) <| mm_sld L xs <| mm_lda 0 <| mm_ldi 4 <| mm_cst (.int 2) <| mm_ii (fun x y => x + y) <| mm_sld L xs <| mm_lda 0 <| mm_ldi 4 <| mm_cst (.int 3) <| mm_ii (fun x y => x + y) <| mm_sld L xs <| mm_lda 0 <| mm_ldi 4 <| mm_cst (.int 4) <| mm_ii (fun x y => x + y) <| mm_sld L xs <| mm_cav 153 5 7 C <| mm_cmp <| mm_ifc .eq 28 J <| mm_bad
  | 24 => mm_lda 1 <| mm_lda 0 <| mm_ldi 4 <| mm_cst (.int 1) <| mm_ii (fun x y => x + y) <| mm_sld L xs <| mm_lda 0 <| mm_ldi 4 <| mm_cst (.int 2) <| mm_ii (fun x y => x + y) <| mm_sld L xs <| mm_cav 75 3 6 C <| mm_lda 2 <| mm_lda 0 <| mm_ldi 4 <| mm_cst (.int 1) <| mm_ii (fun x y => x + y) <| mm_sld L xs <| mm_lda 0 <| mm_ldi 4 <| mm_cst (.int 2) <| mm_ii (fun x y => x + y) <| mm_sld L xs <| mm_cav 154 3 7 C <| mm_icm .eq 28 J <| mm_bad
  | 25 => mm_lda 1 <| mm_lda 0 <| mm_ldi 4 <| mm_cst (.int 1) <| mm_ii (fun x y => x + y) <| mm_sld L xs <| mm_lda 0 <| mm_ldi 4 <| mm_cst (.int 2) <| mm_ii (fun x y => x + y) <| mm_sld L xs <| mm_cav 76 3 6 C <| mm_lda 2 <| mm_lda 0 <| mm_ldi 4 <| mm_cst (.int 1) <| mm_ii (fun x y => x + y) <| mm_sld L xs <| mm_lda 0 <| mm_ldi 4 <| mm_cst (.int 2) <| mm_ii (fun x y => x + y) <| mm_sld L xs <| mm_cav 155 3 7 C <| mm_icm .eq 28 J <| mm_bad
  | 26 => mm_lda 1 <| mm_lda 0 <| mm_ldi 4 <| mm_cst (.int 1) <| mm_ii (fun x y => x + y) <| mm_sld L xs <| mm_cav 77 2 6 C <| mm_lda 2 <| mm_lda 0 <| mm_ldi 4 <| mm_cst (.int 1) <| mm_ii (fun x y => x + y) <| mm_sld L xs <| mm_cav 156 2 7 C <| mm_icm .eq 28 J <| mm_bad
  | 27 => mm_lda 1 <| mm_cav 78 1 6 C <| mm_lda 2 <| mm_cav 157 1 7 C <| mm_go 28 J
  | 28 => mm_inc 4 (.int 5) <| mm_go 1 J
  | 29 => mm_cst (.int 1) <| mm_lwr
  | _ => fun _ _ _ _ => False
def ppL : Nat → Nat
  | 0 => 0
  | 1 => 23
  | 2 => 140
  | 3 => 153
  | 4 => 202
  | 5 => 215
  | 6 => 284
  | 7 => 309
  | 8 => 322
  | 9 => 359
  | 10 => 396
  | 11 => 421
  | 12 => 446
  | 13 => 506
  | 14 => 523
  | 15 => 526
  | 16 => 586
  | 17 => 603
  | 18 => 606
  | 19 => 667
  | 20 => 692
  | 21 => 717
  | 22 => 766
  | 23 => 827
  | 24 => 889
  | 25 => 926
  | 26 => 963
  | 27 => 988
  | 28 => 999
  | 29 => 1005
  | _ => 0
set_option maxHeartbeats 4000000 in
set_option maxRecDepth 100000 in
theorem bL_0 {l : Launch} (hlt : l.stackTraces = false) {D : va_G} {d : Nat} {C : mm_C} (hC : mm_CS l D pcl lw_T XX px_tab (d + 8) C) (hC5 : mm_CS l D pcl lw_T XX px_tab (d + 5) (Ev (d + 5))) (hfr : d + 8 + 1 ≤ room_1.frames) (hlo : 256 * (d + 8) + 256 ≤ room_1.locals) {p : Program} {e : Env} {s : State} {m : MethodId} {b L : Nat} {xs : Nat → Int32} {below : List Frame} {meth : Method} {c : Code} {A : Nat → Prop} {ad0 : Nat → Nat} {cA0 : Nat → ClassId} {J : mm_J} (X : mm_cx p room_1 s m #[Value.ref b] c code RL lw_T A D pcl 7) (hAs : ∀ q, A q → s.heap.size ≤ q) (hr : meth.sig.returnType = ret) (hlk : meth.locks = false) (hXs : va_X b L xs s s.heap) (hbl : b < s.heap.size) (hbA : ¬ A b) (had0 : ad0 (mm_ext + 300) = b) (hJ : ∀ t, mm_SK p l e room_1 s m #[Value.ref b] below meth c (lw_Z below #[Value.ref b] s) D pcl A 7 (mm_EX XX A s ad0 cA0 0) (ppL t) (J t)) : mm_SK p l e room_1 s m #[Value.ref b] below meth c (lw_Z below #[Value.ref b] s) D pcl A 7 (mm_EX XX A s ad0 cA0 0) 0 (mm_new 6 14 (601024, 7293034) <| mm_dup <| mm_can 56 1 80 5135 (601024, 7293034) C <| mm_sta 1 <| mm_new 7 32 (601024, 7293034) <| mm_dup <| mm_can 94 1 15 4036 (601024, 7293034) C <| mm_sta 2 <| mm_cst (.int 1) <| mm_nar .long (601024, 7293034) <| mm_sta 3 <| mm_cst (.int 0) <| mm_sti 4 <| mm_go 1 J) := by
  have hxo := XX_o
  have hxe := XX_e0
  have hfr7 : d + 7 + 1 ≤ room_1.frames := Nat.le_trans (by omega) hfr
  have hlo7 : 256 * (d + 7) + 256 ≤ room_1.locals := Nat.le_trans (by omega) hlo
  refine so_new (pc := 0) (B := (601024, 7293034)) (index := 8) (ci := 6) (N := 14) (C := RX6) (T := TX6) X (mm_EX_cl hxo) ⟨Nat.le_refl _, Nat.le_refl _⟩ rfl uX6 tyX6 tyX6_ok pdX6 tw_612 tw_613 tw_259 (by decide +kernel) ?_
  refine so_dup (pc := 3) X (by decide +kernel) ?_
  refine so_cai (pc := 4) (B := (601024, 7293034)) (y := 56) (na := 1) (index := 22) (maxL := 2) (nm := yX6_init) (bytes := cX6_init) (mc := 80) (ms := 5135) X (mm_EX_cl hxo) ⟨Nat.le_refl _, Nat.le_refl _⟩ hxo (fun _ _ _ _ h => h.1) hC lw_good hfr hlo rfl (by decide) (by decide) tw_615 tw_259 tw_616 rfl (by decide +kernel) (by decide +kernel) tw_614 ?_
  refine so_astore_n (pc := 7) (i := 1) X (by decide +kernel) (by decide) ?_
  refine so_new (pc := 8) (B := (601024, 7293034)) (index := 23) (ci := 7) (N := 32) (C := RX7) (T := TX7) X (mm_EX_cl hxo) ⟨Nat.le_refl _, Nat.le_refl _⟩ rfl uX7 tyX7 tyX7_ok pdX7 tw_617 tw_618 tw_397 (by decide +kernel) ?_
  refine so_dup (pc := 11) X (by decide +kernel) ?_
  refine so_cai (pc := 12) (B := (601024, 7293034)) (y := 94) (na := 1) (index := 25) (maxL := 1) (nm := yX7_init) (bytes := cX7_init) (mc := 15) (ms := 4036) X (mm_EX_cl hxo) ⟨Nat.le_refl _, Nat.le_refl _⟩ hxo (fun _ _ _ _ h => h.1) hC lw_good hfr hlo rfl (by decide) (by decide) tw_620 tw_397 tw_621 rfl (by decide +kernel) (by decide +kernel) tw_619 ?_
  refine so_astore_n (pc := 15) (i := 2) X (by decide +kernel) (by decide) ?_
  refine so_iconst (pc := 16) (n := 1) (v := 1) X (by decide +kernel) (by decide) ?_
  refine so_nalong (pc := 17) (B := (601024, 7293034)) X (mm_EX_cl hxo) ⟨Nat.le_refl _, Nat.le_refl _⟩ tw_112 (by decide +kernel) ?_
  refine so_astore_n (pc := 19) (i := 3) X (by decide +kernel) (by decide) ?_
  refine so_iconst (pc := 20) (n := 0) (v := 0) X (by decide +kernel) (by decide) ?_
  refine so_istore (pc := 21) (i := 4) X (by decide +kernel) (by decide) ?_
  exact so_fall X (hJ 1)
set_option maxHeartbeats 4000000 in
set_option maxRecDepth 100000 in
theorem bL_1 {l : Launch} (hlt : l.stackTraces = false) {D : va_G} {d : Nat} {C : mm_C} (hC : mm_CS l D pcl lw_T XX px_tab (d + 8) C) (hC5 : mm_CS l D pcl lw_T XX px_tab (d + 5) (Ev (d + 5))) (hfr : d + 8 + 1 ≤ room_1.frames) (hlo : 256 * (d + 8) + 256 ≤ room_1.locals) {p : Program} {e : Env} {s : State} {m : MethodId} {b L : Nat} {xs : Nat → Int32} {below : List Frame} {meth : Method} {c : Code} {A : Nat → Prop} {ad0 : Nat → Nat} {cA0 : Nat → ClassId} {J : mm_J} (X : mm_cx p room_1 s m #[Value.ref b] c code RL lw_T A D pcl 7) (hAs : ∀ q, A q → s.heap.size ≤ q) (hr : meth.sig.returnType = ret) (hlk : meth.locks = false) (hXs : va_X b L xs s s.heap) (hbl : b < s.heap.size) (hbA : ¬ A b) (had0 : ad0 (mm_ext + 300) = b) (hJ : ∀ t, mm_SK p l e room_1 s m #[Value.ref b] below meth c (lw_Z below #[Value.ref b] s) D pcl A 7 (mm_EX XX A s ad0 cA0 0) (ppL t) (J t)) : mm_SK p l e room_1 s m #[Value.ref b] below meth c (lw_Z below #[Value.ref b] s) D pcl A 7 (mm_EX XX A s ad0 cA0 0) 23 (mm_ldi 4 <| mm_lda 0 <| mm_sle L <| mm_cst (.int 5) <| mm_ii (fun x y => x - y) <| mm_icm .gt 29 J <| mm_lda 0 <| mm_ldi 4 <| mm_sld L xs <| mm_cst (.int 31) <| mm_ii (fun x y => x &&& y) <| mm_tsw J 0 [28, 2, 3, 4, 5, 6, 7, 8, 9, 10, 11, 12, 15, 18, 19, 20, 21, 22, 23, 24, 25, 26, 27]) := by
  have hxo := XX_o
  have hxe := XX_e0
  have hfr7 : d + 7 + 1 ≤ room_1.frames := Nat.le_trans (by omega) hfr
  have hlo7 : 256 * (d + 7) + 256 ≤ room_1.locals := Nat.le_trans (by omega) hlo
  refine so_iload (pc := 23) (i := 4) X (by decide +kernel) ?_
  refine so_aload_n (pc := 25) (i := 0) X (by decide +kernel) ?_
  refine so_sle (pc := 26) X hXs hbl hbA had0 (by decide +kernel) ?_
  refine so_iconst (pc := 27) (n := 5) (v := 5) X (by decide +kernel) (by decide) ?_
  refine so_isub (pc := 28) X (by decide +kernel) ?_
  refine so_icmp_gt (pc := 29) (off := 976) (tgt := 1005) X (by decide +kernel) (by decide) (hJ 29) ?_
  refine so_aload_n (pc := 32) (i := 0) X (by decide +kernel) ?_
  refine so_iload (pc := 33) (i := 4) X (by decide +kernel) ?_
  refine so_sld (pc := 35) X hXs hbl hbA had0 (by decide +kernel) ?_
  refine so_bipush (pc := 36) (n := 31) (v := 31) X (by decide +kernel) (by decide) ?_
  refine so_iand (pc := 38) X (by decide +kernel) ?_
  exact so_tsw (tts := []) (pc := 39) (len := 101) (dflt := 960) (lo := 0) (hi := 21) (offs := #[101, 114, 163, 176, 245, 270, 283, 320, 357, 382, 407, 487, 567, 628, 653, 678, 727, 788, 850, 887, 924, 949]) (dt := 999) X (by decide +kernel) (by decide) (by decide) (hJ 28) (fun i t h => match i, t, h with | 0, _, h => by cases h; exact ⟨101, 140, rfl, by decide, hJ 2⟩ | 1, _, h => by cases h; exact ⟨114, 153, rfl, by decide, hJ 3⟩ | 2, _, h => by cases h; exact ⟨163, 202, rfl, by decide, hJ 4⟩ | 3, _, h => by cases h; exact ⟨176, 215, rfl, by decide, hJ 5⟩ | 4, _, h => by cases h; exact ⟨245, 284, rfl, by decide, hJ 6⟩ | 5, _, h => by cases h; exact ⟨270, 309, rfl, by decide, hJ 7⟩ | 6, _, h => by cases h; exact ⟨283, 322, rfl, by decide, hJ 8⟩ | 7, _, h => by cases h; exact ⟨320, 359, rfl, by decide, hJ 9⟩ | 8, _, h => by cases h; exact ⟨357, 396, rfl, by decide, hJ 10⟩ | 9, _, h => by cases h; exact ⟨382, 421, rfl, by decide, hJ 11⟩ | 10, _, h => by cases h; exact ⟨407, 446, rfl, by decide, hJ 12⟩ | 11, _, h => by cases h; exact ⟨487, 526, rfl, by decide, hJ 15⟩ | 12, _, h => by cases h; exact ⟨567, 606, rfl, by decide, hJ 18⟩ | 13, _, h => by cases h; exact ⟨628, 667, rfl, by decide, hJ 19⟩ | 14, _, h => by cases h; exact ⟨653, 692, rfl, by decide, hJ 20⟩ | 15, _, h => by cases h; exact ⟨678, 717, rfl, by decide, hJ 21⟩ | 16, _, h => by cases h; exact ⟨727, 766, rfl, by decide, hJ 22⟩ | 17, _, h => by cases h; exact ⟨788, 827, rfl, by decide, hJ 23⟩ | 18, _, h => by cases h; exact ⟨850, 889, rfl, by decide, hJ 24⟩ | 19, _, h => by cases h; exact ⟨887, 926, rfl, by decide, hJ 25⟩ | 20, _, h => by cases h; exact ⟨924, 963, rfl, by decide, hJ 26⟩ | 21, _, h => by cases h; exact ⟨949, 988, rfl, by decide, hJ 27⟩ | n + 22, _, h => by simp at h)
set_option maxHeartbeats 4000000 in
set_option maxRecDepth 100000 in
theorem bL_2 {l : Launch} (hlt : l.stackTraces = false) {D : va_G} {d : Nat} {C : mm_C} (hC : mm_CS l D pcl lw_T XX px_tab (d + 8) C) (hC5 : mm_CS l D pcl lw_T XX px_tab (d + 5) (Ev (d + 5))) (hfr : d + 8 + 1 ≤ room_1.frames) (hlo : 256 * (d + 8) + 256 ≤ room_1.locals) {p : Program} {e : Env} {s : State} {m : MethodId} {b L : Nat} {xs : Nat → Int32} {below : List Frame} {meth : Method} {c : Code} {A : Nat → Prop} {ad0 : Nat → Nat} {cA0 : Nat → ClassId} {J : mm_J} (X : mm_cx p room_1 s m #[Value.ref b] c code RL lw_T A D pcl 7) (hAs : ∀ q, A q → s.heap.size ≤ q) (hr : meth.sig.returnType = ret) (hlk : meth.locks = false) (hXs : va_X b L xs s s.heap) (hbl : b < s.heap.size) (hbA : ¬ A b) (had0 : ad0 (mm_ext + 300) = b) (hJ : ∀ t, mm_SK p l e room_1 s m #[Value.ref b] below meth c (lw_Z below #[Value.ref b] s) D pcl A 7 (mm_EX XX A s ad0 cA0 0) (ppL t) (J t)) : mm_SK p l e room_1 s m #[Value.ref b] below meth c (lw_Z below #[Value.ref b] s) D pcl A 7 (mm_EX XX A s ad0 cA0 0) 140 (mm_lda 1 <| mm_cav 57 1 6 C <| mm_lda 2 <| mm_cav 100 1 7 C <| mm_icm .eq 28 J <| mm_bad) := by
  have hxo := XX_o
  have hxe := XX_e0
  have hfr7 : d + 7 + 1 ≤ room_1.frames := Nat.le_trans (by omega) hfr
  have hlo7 : 256 * (d + 7) + 256 ≤ room_1.locals := Nat.le_trans (by omega) hlo
  refine so_aload_n (pc := 140) (i := 1) X (by decide +kernel) ?_
  refine so_cav (pc := 141) (y := 57) (na := 1) (index := 26) (maxL := 2) (nm := yX6_object) (bytes := cX6_object) (ret := (some .int)) (ci := 6) (N := 14) (T := TX6) X hxo (fun _ _ _ _ h => h.1) hC lw_good hfr hlo rfl (by decide) tw_622 tw_623 tw_259 rfl (by decide) tw_624 tw_625 (by decide +kernel) (by decide +kernel) ?_
  refine so_aload_n (pc := 144) (i := 2) X (by decide +kernel) ?_
  refine so_cav (pc := 145) (y := 100) (na := 1) (index := 30) (maxL := 2) (nm := yX7_object) (bytes := cX7_object) (ret := (some .int)) (ci := 7) (N := 32) (T := TX7) X hxo (fun _ _ _ _ h => h.1) hC lw_good hfr hlo rfl (by decide) tw_626 tw_627 tw_397 rfl (by decide) tw_628 tw_629 (by decide +kernel) (by decide +kernel) ?_
  refine so_icmp_eq (pc := 148) (off := 851) (tgt := 999) X (by decide +kernel) (by decide) (hJ 28) ?_
  exact so_bad
set_option maxHeartbeats 4000000 in
set_option maxRecDepth 100000 in
theorem bL_3 {l : Launch} (hlt : l.stackTraces = false) {D : va_G} {d : Nat} {C : mm_C} (hC : mm_CS l D pcl lw_T XX px_tab (d + 8) C) (hC5 : mm_CS l D pcl lw_T XX px_tab (d + 5) (Ev (d + 5))) (hfr : d + 8 + 1 ≤ room_1.frames) (hlo : 256 * (d + 8) + 256 ≤ room_1.locals) {p : Program} {e : Env} {s : State} {m : MethodId} {b L : Nat} {xs : Nat → Int32} {below : List Frame} {meth : Method} {c : Code} {A : Nat → Prop} {ad0 : Nat → Nat} {cA0 : Nat → ClassId} {J : mm_J} (X : mm_cx p room_1 s m #[Value.ref b] c code RL lw_T A D pcl 7) (hAs : ∀ q, A q → s.heap.size ≤ q) (hr : meth.sig.returnType = ret) (hlk : meth.locks = false) (hXs : va_X b L xs s s.heap) (hbl : b < s.heap.size) (hbA : ¬ A b) (had0 : ad0 (mm_ext + 300) = b) (hJ : ∀ t, mm_SK p l e room_1 s m #[Value.ref b] below meth c (lw_Z below #[Value.ref b] s) D pcl A 7 (mm_EX XX A s ad0 cA0 0) (ppL t) (J t)) : mm_SK p l e room_1 s m #[Value.ref b] below meth c (lw_Z below #[Value.ref b] s) D pcl A 7 (mm_EX XX A s ad0 cA0 0) 153 (mm_lda 1 <| mm_lda 0 <| mm_ldi 4 <| mm_cst (.int 1) <| mm_ii (fun x y => x + y) <| mm_sld L xs <| mm_lda 0 <| mm_ldi 4 <| mm_cst (.int 2) <| mm_ii (fun x y => x + y) <| mm_sld L xs <| mm_lda 0 <| mm_ldi 4 <| mm_cst (.int 3) <| mm_ii (fun x y => x + y) <| mm_sld L xs <| mm_cav 58 4 6 C <| mm_lda 2 <| mm_lda 0 <| mm_ldi 4 <| mm_cst (.int 1) <| mm_ii (fun x y => x + y) <| mm_sld L xs <| mm_lda 0 <| mm_ldi 4 <| mm_cst (.int 2) <| mm_ii (fun x y => x + y) <| mm_sld L xs <| mm_lda 0 <| mm_ldi 4 <| mm_cst (.int 3) <| mm_ii (fun x y => x + y) <| mm_sld L xs <| mm_cav 101 4 7 C <| mm_icm .eq 28 J <| mm_bad) := by
  have hxo := XX_o
  have hxe := XX_e0
  have hfr7 : d + 7 + 1 ≤ room_1.frames := Nat.le_trans (by omega) hfr
  have hlo7 : 256 * (d + 7) + 256 ≤ room_1.locals := Nat.le_trans (by omega) hlo
  refine so_aload_n (pc := 153) (i := 1) X (by decide +kernel) ?_
  refine so_aload_n (pc := 154) (i := 0) X (by decide +kernel) ?_
  refine so_iload (pc := 155) (i := 4) X (by decide +kernel) ?_
  refine so_iconst (pc := 157) (n := 1) (v := 1) X (by decide +kernel) (by decide) ?_
  refine so_iadd (pc := 158) X (by decide +kernel) ?_
  refine so_sld (pc := 159) X hXs hbl hbA had0 (by decide +kernel) ?_
  refine so_aload_n (pc := 160) (i := 0) X (by decide +kernel) ?_
  refine so_iload (pc := 161) (i := 4) X (by decide +kernel) ?_
  refine so_iconst (pc := 163) (n := 2) (v := 2) X (by decide +kernel) (by decide) ?_
  refine so_iadd (pc := 164) X (by decide +kernel) ?_
  refine so_sld (pc := 165) X hXs hbl hbA had0 (by decide +kernel) ?_
  refine so_aload_n (pc := 166) (i := 0) X (by decide +kernel) ?_
  refine so_iload (pc := 167) (i := 4) X (by decide +kernel) ?_
  refine so_iconst (pc := 169) (n := 3) (v := 3) X (by decide +kernel) (by decide) ?_
  refine so_iadd (pc := 170) X (by decide +kernel) ?_
  refine so_sld (pc := 171) X hXs hbl hbA had0 (by decide +kernel) ?_
  refine so_cav (pc := 172) (y := 58) (na := 4) (index := 31) (maxL := 4) (nm := yX6_set) (bytes := cX6_set) (ret := (some .int)) (ci := 6) (N := 14) (T := TX6) X hxo (fun _ _ _ _ h => h.1) hC lw_good hfr hlo rfl (by decide) tw_630 tw_631 tw_259 rfl (by decide) tw_632 tw_633 (by decide +kernel) (by decide +kernel) ?_
  refine so_aload_n (pc := 175) (i := 2) X (by decide +kernel) ?_
  refine so_aload_n (pc := 176) (i := 0) X (by decide +kernel) ?_
  refine so_iload (pc := 177) (i := 4) X (by decide +kernel) ?_
  refine so_iconst (pc := 179) (n := 1) (v := 1) X (by decide +kernel) (by decide) ?_
  refine so_iadd (pc := 180) X (by decide +kernel) ?_
  refine so_sld (pc := 181) X hXs hbl hbA had0 (by decide +kernel) ?_
  refine so_aload_n (pc := 182) (i := 0) X (by decide +kernel) ?_
  refine so_iload (pc := 183) (i := 4) X (by decide +kernel) ?_
  refine so_iconst (pc := 185) (n := 2) (v := 2) X (by decide +kernel) (by decide) ?_
  refine so_iadd (pc := 186) X (by decide +kernel) ?_
  refine so_sld (pc := 187) X hXs hbl hbA had0 (by decide +kernel) ?_
  refine so_aload_n (pc := 188) (i := 0) X (by decide +kernel) ?_
  refine so_iload (pc := 189) (i := 4) X (by decide +kernel) ?_
  refine so_iconst (pc := 191) (n := 3) (v := 3) X (by decide +kernel) (by decide) ?_
  refine so_iadd (pc := 192) X (by decide +kernel) ?_
  refine so_sld (pc := 193) X hXs hbl hbA had0 (by decide +kernel) ?_
  refine so_cav (pc := 194) (y := 101) (na := 4) (index := 34) (maxL := 4) (nm := yX7_set) (bytes := cX7_set) (ret := (some .int)) (ci := 7) (N := 32) (T := TX7) X hxo (fun _ _ _ _ h => h.1) hC lw_good hfr hlo rfl (by decide) tw_634 tw_635 tw_397 rfl (by decide) tw_636 tw_637 (by decide +kernel) (by decide +kernel) ?_
  refine so_icmp_eq (pc := 197) (off := 802) (tgt := 999) X (by decide +kernel) (by decide) (hJ 28) ?_
  exact so_bad
set_option maxHeartbeats 4000000 in
set_option maxRecDepth 100000 in
theorem bL_4 {l : Launch} (hlt : l.stackTraces = false) {D : va_G} {d : Nat} {C : mm_C} (hC : mm_CS l D pcl lw_T XX px_tab (d + 8) C) (hC5 : mm_CS l D pcl lw_T XX px_tab (d + 5) (Ev (d + 5))) (hfr : d + 8 + 1 ≤ room_1.frames) (hlo : 256 * (d + 8) + 256 ≤ room_1.locals) {p : Program} {e : Env} {s : State} {m : MethodId} {b L : Nat} {xs : Nat → Int32} {below : List Frame} {meth : Method} {c : Code} {A : Nat → Prop} {ad0 : Nat → Nat} {cA0 : Nat → ClassId} {J : mm_J} (X : mm_cx p room_1 s m #[Value.ref b] c code RL lw_T A D pcl 7) (hAs : ∀ q, A q → s.heap.size ≤ q) (hr : meth.sig.returnType = ret) (hlk : meth.locks = false) (hXs : va_X b L xs s s.heap) (hbl : b < s.heap.size) (hbA : ¬ A b) (had0 : ad0 (mm_ext + 300) = b) (hJ : ∀ t, mm_SK p l e room_1 s m #[Value.ref b] below meth c (lw_Z below #[Value.ref b] s) D pcl A 7 (mm_EX XX A s ad0 cA0 0) (ppL t) (J t)) : mm_SK p l e room_1 s m #[Value.ref b] below meth c (lw_Z below #[Value.ref b] s) D pcl A 7 (mm_EX XX A s ad0 cA0 0) 202 (mm_lda 1 <| mm_cav 59 1 6 C <| mm_lda 2 <| mm_cav 102 1 7 C <| mm_icm .eq 28 J <| mm_bad) := by
  have hxo := XX_o
  have hxe := XX_e0
  have hfr7 : d + 7 + 1 ≤ room_1.frames := Nat.le_trans (by omega) hfr
  have hlo7 : 256 * (d + 7) + 256 ≤ room_1.locals := Nat.le_trans (by omega) hlo
  refine so_aload_n (pc := 202) (i := 1) X (by decide +kernel) ?_
  refine so_cav (pc := 203) (y := 59) (na := 1) (index := 35) (maxL := 1) (nm := yX6_user) (bytes := cX6_user) (ret := (some .int)) (ci := 6) (N := 14) (T := TX6) X hxo (fun _ _ _ _ h => h.1) hC lw_good hfr hlo rfl (by decide) tw_638 tw_639 tw_259 rfl (by decide) tw_640 tw_641 (by decide +kernel) (by decide +kernel) ?_
  refine so_aload_n (pc := 206) (i := 2) X (by decide +kernel) ?_
  refine so_cav (pc := 207) (y := 102) (na := 1) (index := 38) (maxL := 1) (nm := yX7_user) (bytes := cX7_user) (ret := (some .int)) (ci := 7) (N := 32) (T := TX7) X hxo (fun _ _ _ _ h => h.1) hC lw_good hfr hlo rfl (by decide) tw_642 tw_643 tw_397 rfl (by decide) tw_644 tw_645 (by decide +kernel) (by decide +kernel) ?_
  refine so_icmp_eq (pc := 210) (off := 789) (tgt := 999) X (by decide +kernel) (by decide) (hJ 28) ?_
  exact so_bad
set_option maxHeartbeats 4000000 in
set_option maxRecDepth 100000 in
theorem bL_5 {l : Launch} (hlt : l.stackTraces = false) {D : va_G} {d : Nat} {C : mm_C} (hC : mm_CS l D pcl lw_T XX px_tab (d + 8) C) (hC5 : mm_CS l D pcl lw_T XX px_tab (d + 5) (Ev (d + 5))) (hfr : d + 8 + 1 ≤ room_1.frames) (hlo : 256 * (d + 8) + 256 ≤ room_1.locals) {p : Program} {e : Env} {s : State} {m : MethodId} {b L : Nat} {xs : Nat → Int32} {below : List Frame} {meth : Method} {c : Code} {A : Nat → Prop} {ad0 : Nat → Nat} {cA0 : Nat → ClassId} {J : mm_J} (X : mm_cx p room_1 s m #[Value.ref b] c code RL lw_T A D pcl 7) (hAs : ∀ q, A q → s.heap.size ≤ q) (hr : meth.sig.returnType = ret) (hlk : meth.locks = false) (hXs : va_X b L xs s s.heap) (hbl : b < s.heap.size) (hbA : ¬ A b) (had0 : ad0 (mm_ext + 300) = b) (hJ : ∀ t, mm_SK p l e room_1 s m #[Value.ref b] below meth c (lw_Z below #[Value.ref b] s) D pcl A 7 (mm_EX XX A s ad0 cA0 0) (ppL t) (J t)) : mm_SK p l e room_1 s m #[Value.ref b] below meth c (lw_Z below #[Value.ref b] s) D pcl A 7 (mm_EX XX A s ad0 cA0 0) 215 (mm_lda 1 <| mm_lda 0 <| mm_ldi 4 <| mm_cst (.int 1) <| mm_ii (fun x y => x + y) <| mm_sld L xs <| mm_i2l <| mm_cst (.int 32) <| mm_ls (fun x y => x <<< (y.toInt64 &&& 63)) <| mm_lda 0 <| mm_ldi 4 <| mm_cst (.int 2) <| mm_ii (fun x y => x + y) <| mm_sld L xs <| mm_i2l <| mm_cst (.long 4294967295) <| mm_ll (fun x y => x &&& y) <| mm_ll (fun x y => x ||| y) <| mm_lda 0 <| mm_ldi 4 <| mm_cst (.int 3) <| mm_ii (fun x y => x + y) <| mm_sld L xs <| mm_cav 60 3 6 C <| mm_lda 2 <| mm_lda 0 <| mm_ldi 4 <| mm_cst (.int 1) <| mm_ii (fun x y => x + y) <| mm_sld L xs <| mm_i2l <| mm_cst (.int 32) <| mm_ls (fun x y => x <<< (y.toInt64 &&& 63)) <| mm_lda 0 <| mm_ldi 4 <| mm_cst (.int 2) <| mm_ii (fun x y => x + y) <| mm_sld L xs <| mm_i2l <| mm_cst (.long 4294967295) <| mm_ll (fun x y => x &&& y) <| mm_ll (fun x y => x ||| y) <| mm_lda 0 <| mm_ldi 4 <| mm_cst (.int 3) <| mm_ii (fun x y => x + y) <| mm_sld L xs <| mm_cav 103 3 7 C <| mm_icm .eq 28 J <| mm_bad) := by
  have hxo := XX_o
  have hxe := XX_e0
  have hfr7 : d + 7 + 1 ≤ room_1.frames := Nat.le_trans (by omega) hfr
  have hlo7 : 256 * (d + 7) + 256 ≤ room_1.locals := Nat.le_trans (by omega) hlo
  refine so_aload_n (pc := 215) (i := 1) X (by decide +kernel) ?_
  refine so_aload_n (pc := 216) (i := 0) X (by decide +kernel) ?_
  refine so_iload (pc := 217) (i := 4) X (by decide +kernel) ?_
  refine so_iconst (pc := 219) (n := 1) (v := 1) X (by decide +kernel) (by decide) ?_
  refine so_iadd (pc := 220) X (by decide +kernel) ?_
  refine so_sld (pc := 221) X hXs hbl hbA had0 (by decide +kernel) ?_
  refine so_i2l (pc := 222) X (by decide +kernel) ?_
  refine so_bipush (pc := 223) (n := 32) (v := 32) X (by decide +kernel) (by decide) ?_
  refine so_lshl (pc := 225) X (by decide +kernel) ?_
  refine so_aload_n (pc := 226) (i := 0) X (by decide +kernel) ?_
  refine so_iload (pc := 227) (i := 4) X (by decide +kernel) ?_
  refine so_iconst (pc := 229) (n := 2) (v := 2) X (by decide +kernel) (by decide) ?_
  refine so_iadd (pc := 230) X (by decide +kernel) ?_
  refine so_sld (pc := 231) X hXs hbl hbA had0 (by decide +kernel) ?_
  refine so_i2l (pc := 232) X (by decide +kernel) ?_
  refine so_ldc2 (pc := 233) (index := 39) (v := 4294967295) X (by decide +kernel) tw_646 ?_
  refine so_land (pc := 236) X (by decide +kernel) ?_
  refine so_lor (pc := 237) X (by decide +kernel) ?_
  refine so_aload_n (pc := 238) (i := 0) X (by decide +kernel) ?_
  refine so_iload (pc := 239) (i := 4) X (by decide +kernel) ?_
  refine so_iconst (pc := 241) (n := 3) (v := 3) X (by decide +kernel) (by decide) ?_
  refine so_iadd (pc := 242) X (by decide +kernel) ?_
  refine so_sld (pc := 243) X hXs hbl hbA had0 (by decide +kernel) ?_
  refine so_cav (pc := 244) (y := 60) (na := 3) (index := 41) (maxL := 5) (nm := yX6_type) (bytes := cX6_type) (ret := (some .int)) (ci := 6) (N := 14) (T := TX6) X hxo (fun _ _ _ _ h => h.1) hC lw_good hfr hlo rfl (by decide) tw_647 tw_648 tw_259 rfl (by decide) tw_649 tw_650 (by decide +kernel) (by decide +kernel) ?_
  refine so_aload_n (pc := 247) (i := 2) X (by decide +kernel) ?_
  refine so_aload_n (pc := 248) (i := 0) X (by decide +kernel) ?_
  refine so_iload (pc := 249) (i := 4) X (by decide +kernel) ?_
  refine so_iconst (pc := 251) (n := 1) (v := 1) X (by decide +kernel) (by decide) ?_
  refine so_iadd (pc := 252) X (by decide +kernel) ?_
  refine so_sld (pc := 253) X hXs hbl hbA had0 (by decide +kernel) ?_
  refine so_i2l (pc := 254) X (by decide +kernel) ?_
  refine so_bipush (pc := 255) (n := 32) (v := 32) X (by decide +kernel) (by decide) ?_
  refine so_lshl (pc := 257) X (by decide +kernel) ?_
  refine so_aload_n (pc := 258) (i := 0) X (by decide +kernel) ?_
  refine so_iload (pc := 259) (i := 4) X (by decide +kernel) ?_
  refine so_iconst (pc := 261) (n := 2) (v := 2) X (by decide +kernel) (by decide) ?_
  refine so_iadd (pc := 262) X (by decide +kernel) ?_
  refine so_sld (pc := 263) X hXs hbl hbA had0 (by decide +kernel) ?_
  refine so_i2l (pc := 264) X (by decide +kernel) ?_
  refine so_ldc2 (pc := 265) (index := 39) (v := 4294967295) X (by decide +kernel) tw_646 ?_
  refine so_land (pc := 268) X (by decide +kernel) ?_
  refine so_lor (pc := 269) X (by decide +kernel) ?_
  refine so_aload_n (pc := 270) (i := 0) X (by decide +kernel) ?_
  refine so_iload (pc := 271) (i := 4) X (by decide +kernel) ?_
  refine so_iconst (pc := 273) (n := 3) (v := 3) X (by decide +kernel) (by decide) ?_
  refine so_iadd (pc := 274) X (by decide +kernel) ?_
  refine so_sld (pc := 275) X hXs hbl hbA had0 (by decide +kernel) ?_
  refine so_cav (pc := 276) (y := 103) (na := 3) (index := 45) (maxL := 5) (nm := yX7_type) (bytes := cX7_type) (ret := (some .int)) (ci := 7) (N := 32) (T := TX7) X hxo (fun _ _ _ _ h => h.1) hC lw_good hfr hlo rfl (by decide) tw_651 tw_652 tw_397 rfl (by decide) tw_653 tw_654 (by decide +kernel) (by decide +kernel) ?_
  refine so_icmp_eq (pc := 279) (off := 720) (tgt := 999) X (by decide +kernel) (by decide) (hJ 28) ?_
  exact so_bad
set_option maxHeartbeats 4000000 in
set_option maxRecDepth 100000 in
theorem bL_6 {l : Launch} (hlt : l.stackTraces = false) {D : va_G} {d : Nat} {C : mm_C} (hC : mm_CS l D pcl lw_T XX px_tab (d + 8) C) (hC5 : mm_CS l D pcl lw_T XX px_tab (d + 5) (Ev (d + 5))) (hfr : d + 8 + 1 ≤ room_1.frames) (hlo : 256 * (d + 8) + 256 ≤ room_1.locals) {p : Program} {e : Env} {s : State} {m : MethodId} {b L : Nat} {xs : Nat → Int32} {below : List Frame} {meth : Method} {c : Code} {A : Nat → Prop} {ad0 : Nat → Nat} {cA0 : Nat → ClassId} {J : mm_J} (X : mm_cx p room_1 s m #[Value.ref b] c code RL lw_T A D pcl 7) (hAs : ∀ q, A q → s.heap.size ≤ q) (hr : meth.sig.returnType = ret) (hlk : meth.locks = false) (hXs : va_X b L xs s s.heap) (hbl : b < s.heap.size) (hbA : ¬ A b) (had0 : ad0 (mm_ext + 300) = b) (hJ : ∀ t, mm_SK p l e room_1 s m #[Value.ref b] below meth c (lw_Z below #[Value.ref b] s) D pcl A 7 (mm_EX XX A s ad0 cA0 0) (ppL t) (J t)) : mm_SK p l e room_1 s m #[Value.ref b] below meth c (lw_Z below #[Value.ref b] s) D pcl A 7 (mm_EX XX A s ad0 cA0 0) 284 (mm_lda 1 <| mm_lda 0 <| mm_ldi 4 <| mm_cst (.int 1) <| mm_ii (fun x y => x + y) <| mm_sld L xs <| mm_cav 61 2 6 C <| mm_lda 2 <| mm_lda 0 <| mm_ldi 4 <| mm_cst (.int 1) <| mm_ii (fun x y => x + y) <| mm_sld L xs <| mm_cav 131 2 7 C <| mm_icm .eq 28 J <| mm_bad) := by
  have hxo := XX_o
  have hxe := XX_e0
  have hfr7 : d + 7 + 1 ≤ room_1.frames := Nat.le_trans (by omega) hfr
  have hlo7 : 256 * (d + 7) + 256 ≤ room_1.locals := Nat.le_trans (by omega) hlo
  refine so_aload_n (pc := 284) (i := 1) X (by decide +kernel) ?_
  refine so_aload_n (pc := 285) (i := 0) X (by decide +kernel) ?_
  refine so_iload (pc := 286) (i := 4) X (by decide +kernel) ?_
  refine so_iconst (pc := 288) (n := 1) (v := 1) X (by decide +kernel) (by decide) ?_
  refine so_iadd (pc := 289) X (by decide +kernel) ?_
  refine so_sld (pc := 290) X hXs hbl hbA had0 (by decide +kernel) ?_
  refine so_cav (pc := 291) (y := 61) (na := 2) (index := 46) (maxL := 3) (nm := yX6_rule) (bytes := cX6_rule) (ret := (some .int)) (ci := 6) (N := 14) (T := TX6) X hxo (fun _ _ _ _ h => h.1) hC lw_good hfr hlo rfl (by decide) tw_655 tw_656 tw_259 rfl (by decide) tw_657 tw_658 (by decide +kernel) (by decide +kernel) ?_
  refine so_aload_n (pc := 294) (i := 2) X (by decide +kernel) ?_
  refine so_aload_n (pc := 295) (i := 0) X (by decide +kernel) ?_
  refine so_iload (pc := 296) (i := 4) X (by decide +kernel) ?_
  refine so_iconst (pc := 298) (n := 1) (v := 1) X (by decide +kernel) (by decide) ?_
  refine so_iadd (pc := 299) X (by decide +kernel) ?_
  refine so_sld (pc := 300) X hXs hbl hbA had0 (by decide +kernel) ?_
  refine so_cav (pc := 301) (y := 131) (na := 2) (index := 50) (maxL := 2) (nm := yX7_rule) (bytes := cX7_rule) (ret := (some .int)) (ci := 7) (N := 32) (T := TX7) X hxo (fun _ _ _ _ h => h.1) hC lw_good hfr hlo rfl (by decide) tw_659 tw_660 tw_397 rfl (by decide) tw_661 tw_662 (by decide +kernel) (by decide +kernel) ?_
  refine so_icmp_eq (pc := 304) (off := 695) (tgt := 999) X (by decide +kernel) (by decide) (hJ 28) ?_
  exact so_bad
set_option maxHeartbeats 4000000 in
set_option maxRecDepth 100000 in
theorem bL_7 {l : Launch} (hlt : l.stackTraces = false) {D : va_G} {d : Nat} {C : mm_C} (hC : mm_CS l D pcl lw_T XX px_tab (d + 8) C) (hC5 : mm_CS l D pcl lw_T XX px_tab (d + 5) (Ev (d + 5))) (hfr : d + 8 + 1 ≤ room_1.frames) (hlo : 256 * (d + 8) + 256 ≤ room_1.locals) {p : Program} {e : Env} {s : State} {m : MethodId} {b L : Nat} {xs : Nat → Int32} {below : List Frame} {meth : Method} {c : Code} {A : Nat → Prop} {ad0 : Nat → Nat} {cA0 : Nat → ClassId} {J : mm_J} (X : mm_cx p room_1 s m #[Value.ref b] c code RL lw_T A D pcl 7) (hAs : ∀ q, A q → s.heap.size ≤ q) (hr : meth.sig.returnType = ret) (hlk : meth.locks = false) (hXs : va_X b L xs s s.heap) (hbl : b < s.heap.size) (hbA : ¬ A b) (had0 : ad0 (mm_ext + 300) = b) (hJ : ∀ t, mm_SK p l e room_1 s m #[Value.ref b] below meth c (lw_Z below #[Value.ref b] s) D pcl A 7 (mm_EX XX A s ad0 cA0 0) (ppL t) (J t)) : mm_SK p l e room_1 s m #[Value.ref b] below meth c (lw_Z below #[Value.ref b] s) D pcl A 7 (mm_EX XX A s ad0 cA0 0) 309 (mm_lda 1 <| mm_cav 62 1 6 C <| mm_lda 2 <| mm_cav 122 1 7 C <| mm_icm .eq 28 J <| mm_bad) := by
  have hxo := XX_o
  have hxe := XX_e0
  have hfr7 : d + 7 + 1 ≤ room_1.frames := Nat.le_trans (by omega) hfr
  have hlo7 : 256 * (d + 7) + 256 ≤ room_1.locals := Nat.le_trans (by omega) hlo
  refine so_aload_n (pc := 309) (i := 1) X (by decide +kernel) ?_
  refine so_cav (pc := 310) (y := 62) (na := 1) (index := 51) (maxL := 1) (nm := yX6_place) (bytes := cX6_place) (ret := (some .int)) (ci := 6) (N := 14) (T := TX6) X hxo (fun _ _ _ _ h => h.1) hC lw_good hfr hlo rfl (by decide) tw_663 tw_664 tw_259 rfl (by decide) tw_665 tw_666 (by decide +kernel) (by decide +kernel) ?_
  refine so_aload_n (pc := 313) (i := 2) X (by decide +kernel) ?_
  refine so_cav (pc := 314) (y := 122) (na := 1) (index := 54) (maxL := 1) (nm := yX7_place) (bytes := cX7_place) (ret := (some .int)) (ci := 7) (N := 32) (T := TX7) X hxo (fun _ _ _ _ h => h.1) hC lw_good hfr hlo rfl (by decide) tw_667 tw_668 tw_397 rfl (by decide) tw_669 tw_670 (by decide +kernel) (by decide +kernel) ?_
  refine so_icmp_eq (pc := 317) (off := 682) (tgt := 999) X (by decide +kernel) (by decide) (hJ 28) ?_
  exact so_bad
set_option maxHeartbeats 4000000 in
set_option maxRecDepth 100000 in
theorem bL_8 {l : Launch} (hlt : l.stackTraces = false) {D : va_G} {d : Nat} {C : mm_C} (hC : mm_CS l D pcl lw_T XX px_tab (d + 8) C) (hC5 : mm_CS l D pcl lw_T XX px_tab (d + 5) (Ev (d + 5))) (hfr : d + 8 + 1 ≤ room_1.frames) (hlo : 256 * (d + 8) + 256 ≤ room_1.locals) {p : Program} {e : Env} {s : State} {m : MethodId} {b L : Nat} {xs : Nat → Int32} {below : List Frame} {meth : Method} {c : Code} {A : Nat → Prop} {ad0 : Nat → Nat} {cA0 : Nat → ClassId} {J : mm_J} (X : mm_cx p room_1 s m #[Value.ref b] c code RL lw_T A D pcl 7) (hAs : ∀ q, A q → s.heap.size ≤ q) (hr : meth.sig.returnType = ret) (hlk : meth.locks = false) (hXs : va_X b L xs s s.heap) (hbl : b < s.heap.size) (hbA : ¬ A b) (had0 : ad0 (mm_ext + 300) = b) (hJ : ∀ t, mm_SK p l e room_1 s m #[Value.ref b] below meth c (lw_Z below #[Value.ref b] s) D pcl A 7 (mm_EX XX A s ad0 cA0 0) (ppL t) (J t)) : mm_SK p l e room_1 s m #[Value.ref b] below meth c (lw_Z below #[Value.ref b] s) D pcl A 7 (mm_EX XX A s ad0 cA0 0) 322 (mm_lda 1 <| mm_lda 0 <| mm_ldi 4 <| mm_cst (.int 1) <| mm_ii (fun x y => x + y) <| mm_sld L xs <| mm_lda 0 <| mm_ldi 4 <| mm_cst (.int 2) <| mm_ii (fun x y => x + y) <| mm_sld L xs <| mm_cav 63 3 6 C <| mm_lda 2 <| mm_lda 0 <| mm_ldi 4 <| mm_cst (.int 1) <| mm_ii (fun x y => x + y) <| mm_sld L xs <| mm_lda 0 <| mm_ldi 4 <| mm_cst (.int 2) <| mm_ii (fun x y => x + y) <| mm_sld L xs <| mm_cav 132 3 7 C <| mm_icm .eq 28 J <| mm_bad) := by
  have hxo := XX_o
  have hxe := XX_e0
  have hfr7 : d + 7 + 1 ≤ room_1.frames := Nat.le_trans (by omega) hfr
  have hlo7 : 256 * (d + 7) + 256 ≤ room_1.locals := Nat.le_trans (by omega) hlo
  refine so_aload_n (pc := 322) (i := 1) X (by decide +kernel) ?_
  refine so_aload_n (pc := 323) (i := 0) X (by decide +kernel) ?_
  refine so_iload (pc := 324) (i := 4) X (by decide +kernel) ?_
  refine so_iconst (pc := 326) (n := 1) (v := 1) X (by decide +kernel) (by decide) ?_
  refine so_iadd (pc := 327) X (by decide +kernel) ?_
  refine so_sld (pc := 328) X hXs hbl hbA had0 (by decide +kernel) ?_
  refine so_aload_n (pc := 329) (i := 0) X (by decide +kernel) ?_
  refine so_iload (pc := 330) (i := 4) X (by decide +kernel) ?_
  refine so_iconst (pc := 332) (n := 2) (v := 2) X (by decide +kernel) (by decide) ?_
  refine so_iadd (pc := 333) X (by decide +kernel) ?_
  refine so_sld (pc := 334) X hXs hbl hbA had0 (by decide +kernel) ?_
  refine so_cav (pc := 335) (y := 63) (na := 3) (index := 55) (maxL := 4) (nm := yX6_close) (bytes := cX6_close) (ret := (some .int)) (ci := 6) (N := 14) (T := TX6) X hxo (fun _ _ _ _ h => h.1) hC lw_good hfr hlo rfl (by decide) tw_671 tw_672 tw_259 rfl (by decide) tw_673 tw_674 (by decide +kernel) (by decide +kernel) ?_
  refine so_aload_n (pc := 338) (i := 2) X (by decide +kernel) ?_
  refine so_aload_n (pc := 339) (i := 0) X (by decide +kernel) ?_
  refine so_iload (pc := 340) (i := 4) X (by decide +kernel) ?_
  refine so_iconst (pc := 342) (n := 1) (v := 1) X (by decide +kernel) (by decide) ?_
  refine so_iadd (pc := 343) X (by decide +kernel) ?_
  refine so_sld (pc := 344) X hXs hbl hbA had0 (by decide +kernel) ?_
  refine so_aload_n (pc := 345) (i := 0) X (by decide +kernel) ?_
  refine so_iload (pc := 346) (i := 4) X (by decide +kernel) ?_
  refine so_iconst (pc := 348) (n := 2) (v := 2) X (by decide +kernel) (by decide) ?_
  refine so_iadd (pc := 349) X (by decide +kernel) ?_
  refine so_sld (pc := 350) X hXs hbl hbA had0 (by decide +kernel) ?_
  refine so_cav (pc := 351) (y := 132) (na := 3) (index := 59) (maxL := 4) (nm := yX7_close) (bytes := cX7_close) (ret := (some .int)) (ci := 7) (N := 32) (T := TX7) X hxo (fun _ _ _ _ h => h.1) hC lw_good hfr hlo rfl (by decide) tw_675 tw_676 tw_397 rfl (by decide) tw_677 tw_678 (by decide +kernel) (by decide +kernel) ?_
  refine so_icmp_eq (pc := 354) (off := 645) (tgt := 999) X (by decide +kernel) (by decide) (hJ 28) ?_
  exact so_bad
set_option maxHeartbeats 4000000 in
set_option maxRecDepth 100000 in
theorem bL_9 {l : Launch} (hlt : l.stackTraces = false) {D : va_G} {d : Nat} {C : mm_C} (hC : mm_CS l D pcl lw_T XX px_tab (d + 8) C) (hC5 : mm_CS l D pcl lw_T XX px_tab (d + 5) (Ev (d + 5))) (hfr : d + 8 + 1 ≤ room_1.frames) (hlo : 256 * (d + 8) + 256 ≤ room_1.locals) {p : Program} {e : Env} {s : State} {m : MethodId} {b L : Nat} {xs : Nat → Int32} {below : List Frame} {meth : Method} {c : Code} {A : Nat → Prop} {ad0 : Nat → Nat} {cA0 : Nat → ClassId} {J : mm_J} (X : mm_cx p room_1 s m #[Value.ref b] c code RL lw_T A D pcl 7) (hAs : ∀ q, A q → s.heap.size ≤ q) (hr : meth.sig.returnType = ret) (hlk : meth.locks = false) (hXs : va_X b L xs s s.heap) (hbl : b < s.heap.size) (hbA : ¬ A b) (had0 : ad0 (mm_ext + 300) = b) (hJ : ∀ t, mm_SK p l e room_1 s m #[Value.ref b] below meth c (lw_Z below #[Value.ref b] s) D pcl A 7 (mm_EX XX A s ad0 cA0 0) (ppL t) (J t)) : mm_SK p l e room_1 s m #[Value.ref b] below meth c (lw_Z below #[Value.ref b] s) D pcl A 7 (mm_EX XX A s ad0 cA0 0) 359 (mm_lda 1 <| mm_lda 0 <| mm_ldi 4 <| mm_cst (.int 1) <| mm_ii (fun x y => x + y) <| mm_sld L xs <| mm_lda 0 <| mm_ldi 4 <| mm_cst (.int 2) <| mm_ii (fun x y => x + y) <| mm_sld L xs <| mm_cav 64 3 6 C <| mm_lda 2 <| mm_lda 0 <| mm_ldi 4 <| mm_cst (.int 1) <| mm_ii (fun x y => x + y) <| mm_sld L xs <| mm_lda 0 <| mm_ldi 4 <| mm_cst (.int 2) <| mm_ii (fun x y => x + y) <| mm_sld L xs <| mm_cav 133 3 7 C <| mm_icm .eq 28 J <| mm_bad) := by
  have hxo := XX_o
  have hxe := XX_e0
  have hfr7 : d + 7 + 1 ≤ room_1.frames := Nat.le_trans (by omega) hfr
  have hlo7 : 256 * (d + 7) + 256 ≤ room_1.locals := Nat.le_trans (by omega) hlo
  refine so_aload_n (pc := 359) (i := 1) X (by decide +kernel) ?_
  refine so_aload_n (pc := 360) (i := 0) X (by decide +kernel) ?_
  refine so_iload (pc := 361) (i := 4) X (by decide +kernel) ?_
  refine so_iconst (pc := 363) (n := 1) (v := 1) X (by decide +kernel) (by decide) ?_
  refine so_iadd (pc := 364) X (by decide +kernel) ?_
  refine so_sld (pc := 365) X hXs hbl hbA had0 (by decide +kernel) ?_
  refine so_aload_n (pc := 366) (i := 0) X (by decide +kernel) ?_
  refine so_iload (pc := 367) (i := 4) X (by decide +kernel) ?_
  refine so_iconst (pc := 369) (n := 2) (v := 2) X (by decide +kernel) (by decide) ?_
  refine so_iadd (pc := 370) X (by decide +kernel) ?_
  refine so_sld (pc := 371) X hXs hbl hbA had0 (by decide +kernel) ?_
  refine so_cav (pc := 372) (y := 64) (na := 3) (index := 60) (maxL := 3) (nm := yX6_seen) (bytes := cX6_seen) (ret := (some .int)) (ci := 6) (N := 14) (T := TX6) X hxo (fun _ _ _ _ h => h.1) hC lw_good hfr hlo rfl (by decide) tw_679 tw_680 tw_259 rfl (by decide) tw_681 tw_682 (by decide +kernel) (by decide +kernel) ?_
  refine so_aload_n (pc := 375) (i := 2) X (by decide +kernel) ?_
  refine so_aload_n (pc := 376) (i := 0) X (by decide +kernel) ?_
  refine so_iload (pc := 377) (i := 4) X (by decide +kernel) ?_
  refine so_iconst (pc := 379) (n := 1) (v := 1) X (by decide +kernel) (by decide) ?_
  refine so_iadd (pc := 380) X (by decide +kernel) ?_
  refine so_sld (pc := 381) X hXs hbl hbA had0 (by decide +kernel) ?_
  refine so_aload_n (pc := 382) (i := 0) X (by decide +kernel) ?_
  refine so_iload (pc := 383) (i := 4) X (by decide +kernel) ?_
  refine so_iconst (pc := 385) (n := 2) (v := 2) X (by decide +kernel) (by decide) ?_
  refine so_iadd (pc := 386) X (by decide +kernel) ?_
  refine so_sld (pc := 387) X hXs hbl hbA had0 (by decide +kernel) ?_
  refine so_cav (pc := 388) (y := 133) (na := 3) (index := 63) (maxL := 3) (nm := yX7_seen) (bytes := cX7_seen) (ret := (some .int)) (ci := 7) (N := 32) (T := TX7) X hxo (fun _ _ _ _ h => h.1) hC lw_good hfr hlo rfl (by decide) tw_683 tw_684 tw_397 rfl (by decide) tw_685 tw_686 (by decide +kernel) (by decide +kernel) ?_
  refine so_icmp_eq (pc := 391) (off := 608) (tgt := 999) X (by decide +kernel) (by decide) (hJ 28) ?_
  exact so_bad
set_option maxHeartbeats 4000000 in
set_option maxRecDepth 100000 in
theorem bL_10 {l : Launch} (hlt : l.stackTraces = false) {D : va_G} {d : Nat} {C : mm_C} (hC : mm_CS l D pcl lw_T XX px_tab (d + 8) C) (hC5 : mm_CS l D pcl lw_T XX px_tab (d + 5) (Ev (d + 5))) (hfr : d + 8 + 1 ≤ room_1.frames) (hlo : 256 * (d + 8) + 256 ≤ room_1.locals) {p : Program} {e : Env} {s : State} {m : MethodId} {b L : Nat} {xs : Nat → Int32} {below : List Frame} {meth : Method} {c : Code} {A : Nat → Prop} {ad0 : Nat → Nat} {cA0 : Nat → ClassId} {J : mm_J} (X : mm_cx p room_1 s m #[Value.ref b] c code RL lw_T A D pcl 7) (hAs : ∀ q, A q → s.heap.size ≤ q) (hr : meth.sig.returnType = ret) (hlk : meth.locks = false) (hXs : va_X b L xs s s.heap) (hbl : b < s.heap.size) (hbA : ¬ A b) (had0 : ad0 (mm_ext + 300) = b) (hJ : ∀ t, mm_SK p l e room_1 s m #[Value.ref b] below meth c (lw_Z below #[Value.ref b] s) D pcl A 7 (mm_EX XX A s ad0 cA0 0) (ppL t) (J t)) : mm_SK p l e room_1 s m #[Value.ref b] below meth c (lw_Z below #[Value.ref b] s) D pcl A 7 (mm_EX XX A s ad0 cA0 0) 396 (mm_lda 1 <| mm_lda 0 <| mm_ldi 4 <| mm_cst (.int 1) <| mm_ii (fun x y => x + y) <| mm_sld L xs <| mm_cav 65 2 6 C <| mm_lda 2 <| mm_lda 0 <| mm_ldi 4 <| mm_cst (.int 1) <| mm_ii (fun x y => x + y) <| mm_sld L xs <| mm_cav 136 2 7 C <| mm_icm .eq 28 J <| mm_bad) := by
  have hxo := XX_o
  have hxe := XX_e0
  have hfr7 : d + 7 + 1 ≤ room_1.frames := Nat.le_trans (by omega) hfr
  have hlo7 : 256 * (d + 7) + 256 ≤ room_1.locals := Nat.le_trans (by omega) hlo
  refine so_aload_n (pc := 396) (i := 1) X (by decide +kernel) ?_
  refine so_aload_n (pc := 397) (i := 0) X (by decide +kernel) ?_
  refine so_iload (pc := 398) (i := 4) X (by decide +kernel) ?_
  refine so_iconst (pc := 400) (n := 1) (v := 1) X (by decide +kernel) (by decide) ?_
  refine so_iadd (pc := 401) X (by decide +kernel) ?_
  refine so_sld (pc := 402) X hXs hbl hbA had0 (by decide +kernel) ?_
  refine so_cav (pc := 403) (y := 65) (na := 2) (index := 64) (maxL := 4) (nm := yX6_ask) (bytes := cX6_ask) (ret := (some .int)) (ci := 6) (N := 14) (T := TX6) X hxo (fun _ _ _ _ h => h.1) hC lw_good hfr hlo rfl (by decide) tw_687 tw_688 tw_259 rfl (by decide) tw_689 tw_690 (by decide +kernel) (by decide +kernel) ?_
  refine so_aload_n (pc := 406) (i := 2) X (by decide +kernel) ?_
  refine so_aload_n (pc := 407) (i := 0) X (by decide +kernel) ?_
  refine so_iload (pc := 408) (i := 4) X (by decide +kernel) ?_
  refine so_iconst (pc := 410) (n := 1) (v := 1) X (by decide +kernel) (by decide) ?_
  refine so_iadd (pc := 411) X (by decide +kernel) ?_
  refine so_sld (pc := 412) X hXs hbl hbA had0 (by decide +kernel) ?_
  refine so_cav (pc := 413) (y := 136) (na := 2) (index := 67) (maxL := 4) (nm := yX7_ask) (bytes := cX7_ask) (ret := (some .int)) (ci := 7) (N := 32) (T := TX7) X hxo (fun _ _ _ _ h => h.1) hC lw_good hfr hlo rfl (by decide) tw_691 tw_692 tw_397 rfl (by decide) tw_693 tw_694 (by decide +kernel) (by decide +kernel) ?_
  refine so_icmp_eq (pc := 416) (off := 583) (tgt := 999) X (by decide +kernel) (by decide) (hJ 28) ?_
  exact so_bad
set_option maxHeartbeats 4000000 in
set_option maxRecDepth 100000 in
theorem bL_11 {l : Launch} (hlt : l.stackTraces = false) {D : va_G} {d : Nat} {C : mm_C} (hC : mm_CS l D pcl lw_T XX px_tab (d + 8) C) (hC5 : mm_CS l D pcl lw_T XX px_tab (d + 5) (Ev (d + 5))) (hfr : d + 8 + 1 ≤ room_1.frames) (hlo : 256 * (d + 8) + 256 ≤ room_1.locals) {p : Program} {e : Env} {s : State} {m : MethodId} {b L : Nat} {xs : Nat → Int32} {below : List Frame} {meth : Method} {c : Code} {A : Nat → Prop} {ad0 : Nat → Nat} {cA0 : Nat → ClassId} {J : mm_J} (X : mm_cx p room_1 s m #[Value.ref b] c code RL lw_T A D pcl 7) (hAs : ∀ q, A q → s.heap.size ≤ q) (hr : meth.sig.returnType = ret) (hlk : meth.locks = false) (hXs : va_X b L xs s s.heap) (hbl : b < s.heap.size) (hbA : ¬ A b) (had0 : ad0 (mm_ext + 300) = b) (hJ : ∀ t, mm_SK p l e room_1 s m #[Value.ref b] below meth c (lw_Z below #[Value.ref b] s) D pcl A 7 (mm_EX XX A s ad0 cA0 0) (ppL t) (J t)) : mm_SK p l e room_1 s m #[Value.ref b] below meth c (lw_Z below #[Value.ref b] s) D pcl A 7 (mm_EX XX A s ad0 cA0 0) 421 (mm_lda 1 <| mm_lda 0 <| mm_ldi 4 <| mm_cst (.int 1) <| mm_ii (fun x y => x + y) <| mm_sld L xs <| mm_cav 66 2 6 C <| mm_lda 2 <| mm_lda 0 <| mm_ldi 4 <| mm_cst (.int 1) <| mm_ii (fun x y => x + y) <| mm_sld L xs <| mm_cav 137 2 7 C <| mm_icm .eq 28 J <| mm_bad) := by
  have hxo := XX_o
  have hxe := XX_e0
  have hfr7 : d + 7 + 1 ≤ room_1.frames := Nat.le_trans (by omega) hfr
  have hlo7 : 256 * (d + 7) + 256 ≤ room_1.locals := Nat.le_trans (by omega) hlo
  refine so_aload_n (pc := 421) (i := 1) X (by decide +kernel) ?_
  refine so_aload_n (pc := 422) (i := 0) X (by decide +kernel) ?_
  refine so_iload (pc := 423) (i := 4) X (by decide +kernel) ?_
  refine so_iconst (pc := 425) (n := 1) (v := 1) X (by decide +kernel) (by decide) ?_
  refine so_iadd (pc := 426) X (by decide +kernel) ?_
  refine so_sld (pc := 427) X hXs hbl hbA had0 (by decide +kernel) ?_
  refine so_cav (pc := 428) (y := 66) (na := 2) (index := 68) (maxL := 2) (nm := yX6_found) (bytes := cX6_found) (ret := (some .int)) (ci := 6) (N := 14) (T := TX6) X hxo (fun _ _ _ _ h => h.1) hC lw_good hfr hlo rfl (by decide) tw_695 tw_696 tw_259 rfl (by decide) tw_697 tw_698 (by decide +kernel) (by decide +kernel) ?_
  refine so_aload_n (pc := 431) (i := 2) X (by decide +kernel) ?_
  refine so_aload_n (pc := 432) (i := 0) X (by decide +kernel) ?_
  refine so_iload (pc := 433) (i := 4) X (by decide +kernel) ?_
  refine so_iconst (pc := 435) (n := 1) (v := 1) X (by decide +kernel) (by decide) ?_
  refine so_iadd (pc := 436) X (by decide +kernel) ?_
  refine so_sld (pc := 437) X hXs hbl hbA had0 (by decide +kernel) ?_
  refine so_cav (pc := 438) (y := 137) (na := 2) (index := 71) (maxL := 2) (nm := yX7_found) (bytes := cX7_found) (ret := (some .int)) (ci := 7) (N := 32) (T := TX7) X hxo (fun _ _ _ _ h => h.1) hC lw_good hfr hlo rfl (by decide) tw_699 tw_700 tw_397 rfl (by decide) tw_701 tw_702 (by decide +kernel) (by decide +kernel) ?_
  refine so_icmp_eq (pc := 441) (off := 558) (tgt := 999) X (by decide +kernel) (by decide) (hJ 28) ?_
  exact so_bad
set_option maxHeartbeats 4000000 in
set_option maxRecDepth 100000 in
theorem bL_12 {l : Launch} (hlt : l.stackTraces = false) {D : va_G} {d : Nat} {C : mm_C} (hC : mm_CS l D pcl lw_T XX px_tab (d + 8) C) (hC5 : mm_CS l D pcl lw_T XX px_tab (d + 5) (Ev (d + 5))) (hfr : d + 8 + 1 ≤ room_1.frames) (hlo : 256 * (d + 8) + 256 ≤ room_1.locals) {p : Program} {e : Env} {s : State} {m : MethodId} {b L : Nat} {xs : Nat → Int32} {below : List Frame} {meth : Method} {c : Code} {A : Nat → Prop} {ad0 : Nat → Nat} {cA0 : Nat → ClassId} {J : mm_J} (X : mm_cx p room_1 s m #[Value.ref b] c code RL lw_T A D pcl 7) (hAs : ∀ q, A q → s.heap.size ≤ q) (hr : meth.sig.returnType = ret) (hlk : meth.locks = false) (hXs : va_X b L xs s s.heap) (hbl : b < s.heap.size) (hbA : ¬ A b) (had0 : ad0 (mm_ext + 300) = b) (hJ : ∀ t, mm_SK p l e room_1 s m #[Value.ref b] below meth c (lw_Z below #[Value.ref b] s) D pcl A 7 (mm_EX XX A s ad0 cA0 0) (ppL t) (J t)) : mm_SK p l e room_1 s m #[Value.ref b] below meth c (lw_Z below #[Value.ref b] s) D pcl A 7 (mm_EX XX A s ad0 cA0 0) 446 (mm_lda 1 <| mm_lda 0 <| mm_ldi 4 <| mm_cst (.int 1) <| mm_ii (fun x y => x + y) <| mm_sld L xs <| mm_lda 0 <| mm_ldi 4 <| mm_cst (.int 2) <| mm_ii (fun x y => x + y) <| mm_sld L xs <| mm_lda 0 <| mm_ldi 4 <| mm_cst (.int 3) <| mm_ii (fun x y => x + y) <| mm_sld L xs <| mm_lda 3 <| mm_cal (fun as μ Q => Xv (d + 5) vb_value 5 as μ Q) (601024, 7293034) <| mm_sti 5 <| mm_lda 2 <| mm_lda 0 <| mm_ldi 4 <| mm_cst (.int 1) <| mm_ii (fun x y => x + y) <| mm_sld L xs <| mm_lda 0 <| mm_ldi 4 <| mm_cst (.int 2) <| mm_ii (fun x y => x + y) <| mm_sld L xs <| mm_lda 0 <| mm_ldi 4 <| mm_cst (.int 3) <| mm_ii (fun x y => x + y) <| mm_sld L xs <| mm_cav 149 4 7 C <| mm_sti 6 <| mm_lda 2 <| mm_cav 95 1 7 C <| mm_ldi 5 <| mm_icm .eq 13 J <| mm_bad) := by
  have hxo := XX_o
  have hxe := XX_e0
  have hfr7 : d + 7 + 1 ≤ room_1.frames := Nat.le_trans (by omega) hfr
  have hlo7 : 256 * (d + 7) + 256 ≤ room_1.locals := Nat.le_trans (by omega) hlo
  refine so_aload_n (pc := 446) (i := 1) X (by decide +kernel) ?_
  refine so_aload_n (pc := 447) (i := 0) X (by decide +kernel) ?_
  refine so_iload (pc := 448) (i := 4) X (by decide +kernel) ?_
  refine so_iconst (pc := 450) (n := 1) (v := 1) X (by decide +kernel) (by decide) ?_
  refine so_iadd (pc := 451) X (by decide +kernel) ?_
  refine so_sld (pc := 452) X hXs hbl hbA had0 (by decide +kernel) ?_
  refine so_aload_n (pc := 453) (i := 0) X (by decide +kernel) ?_
  refine so_iload (pc := 454) (i := 4) X (by decide +kernel) ?_
  refine so_iconst (pc := 456) (n := 2) (v := 2) X (by decide +kernel) (by decide) ?_
  refine so_iadd (pc := 457) X (by decide +kernel) ?_
  refine so_sld (pc := 458) X hXs hbl hbA had0 (by decide +kernel) ?_
  refine so_aload_n (pc := 459) (i := 0) X (by decide +kernel) ?_
  refine so_iload (pc := 460) (i := 4) X (by decide +kernel) ?_
  refine so_iconst (pc := 462) (n := 3) (v := 3) X (by decide +kernel) (by decide) ?_
  refine so_iadd (pc := 463) X (by decide +kernel) ?_
  refine so_sld (pc := 464) X hXs hbl hbA had0 (by decide +kernel) ?_
  refine so_aload_n (pc := 465) (i := 3) X (by decide +kernel) ?_
  refine so_cal (pc := 466) (B := (601024, 7293034)) (d1 := d + 7) (index := 72) (y := yL_value) (bytes := cL_value) X ⟨Nat.le_refl _, Nat.le_refl _⟩ (fun as μ Q h ad cA sz => lm_value hlt hC5 h ad cA sz) hfr7 hlo7 lc_value tw_703 tw_704 tw_705 (by decide +kernel) (by decide +kernel) ?_
  refine so_istore (pc := 469) (i := 5) X (by decide +kernel) (by decide) ?_
  refine so_aload_n (pc := 471) (i := 2) X (by decide +kernel) ?_
  refine so_aload_n (pc := 472) (i := 0) X (by decide +kernel) ?_
  refine so_iload (pc := 473) (i := 4) X (by decide +kernel) ?_
  refine so_iconst (pc := 475) (n := 1) (v := 1) X (by decide +kernel) (by decide) ?_
  refine so_iadd (pc := 476) X (by decide +kernel) ?_
  refine so_sld (pc := 477) X hXs hbl hbA had0 (by decide +kernel) ?_
  refine so_aload_n (pc := 478) (i := 0) X (by decide +kernel) ?_
  refine so_iload (pc := 479) (i := 4) X (by decide +kernel) ?_
  refine so_iconst (pc := 481) (n := 2) (v := 2) X (by decide +kernel) (by decide) ?_
  refine so_iadd (pc := 482) X (by decide +kernel) ?_
  refine so_sld (pc := 483) X hXs hbl hbA had0 (by decide +kernel) ?_
  refine so_aload_n (pc := 484) (i := 0) X (by decide +kernel) ?_
  refine so_iload (pc := 485) (i := 4) X (by decide +kernel) ?_
  refine so_iconst (pc := 487) (n := 3) (v := 3) X (by decide +kernel) (by decide) ?_
  refine so_iadd (pc := 488) X (by decide +kernel) ?_
  refine so_sld (pc := 489) X hXs hbl hbA had0 (by decide +kernel) ?_
  refine so_cav (pc := 490) (y := 149) (na := 4) (index := 77) (maxL := 4) (nm := yX7_value) (bytes := cX7_value) (ret := (some .int)) (ci := 7) (N := 32) (T := TX7) X hxo (fun _ _ _ _ h => h.1) hC lw_good hfr hlo rfl (by decide) tw_706 tw_707 tw_397 rfl (by decide) tw_708 tw_709 (by decide +kernel) (by decide +kernel) ?_
  refine so_istore (pc := 493) (i := 6) X (by decide +kernel) (by decide) ?_
  refine so_aload_n (pc := 495) (i := 2) X (by decide +kernel) ?_
  refine so_cav (pc := 496) (y := 95) (na := 1) (index := 78) (maxL := 1) (nm := yX7_thrown) (bytes := cX7_thrown) (ret := (some .int)) (ci := 7) (N := 32) (T := TX7) X hxo (fun _ _ _ _ h => h.1) hC lw_good hfr hlo rfl (by decide) tw_710 tw_711 tw_397 rfl (by decide) tw_712 tw_713 (by decide +kernel) (by decide +kernel) ?_
  refine so_iload (pc := 499) (i := 5) X (by decide +kernel) ?_
  refine so_icmp_eq (pc := 501) (off := 5) (tgt := 506) X (by decide +kernel) (by decide) (hJ 13) ?_
  exact so_bad
set_option maxHeartbeats 4000000 in
set_option maxRecDepth 100000 in
theorem bL_13 {l : Launch} (hlt : l.stackTraces = false) {D : va_G} {d : Nat} {C : mm_C} (hC : mm_CS l D pcl lw_T XX px_tab (d + 8) C) (hC5 : mm_CS l D pcl lw_T XX px_tab (d + 5) (Ev (d + 5))) (hfr : d + 8 + 1 ≤ room_1.frames) (hlo : 256 * (d + 8) + 256 ≤ room_1.locals) {p : Program} {e : Env} {s : State} {m : MethodId} {b L : Nat} {xs : Nat → Int32} {below : List Frame} {meth : Method} {c : Code} {A : Nat → Prop} {ad0 : Nat → Nat} {cA0 : Nat → ClassId} {J : mm_J} (X : mm_cx p room_1 s m #[Value.ref b] c code RL lw_T A D pcl 7) (hAs : ∀ q, A q → s.heap.size ≤ q) (hr : meth.sig.returnType = ret) (hlk : meth.locks = false) (hXs : va_X b L xs s s.heap) (hbl : b < s.heap.size) (hbA : ¬ A b) (had0 : ad0 (mm_ext + 300) = b) (hJ : ∀ t, mm_SK p l e room_1 s m #[Value.ref b] below meth c (lw_Z below #[Value.ref b] s) D pcl A 7 (mm_EX XX A s ad0 cA0 0) (ppL t) (J t)) : mm_SK p l e room_1 s m #[Value.ref b] below meth c (lw_Z below #[Value.ref b] s) D pcl A 7 (mm_EX XX A s ad0 cA0 0) 506 (mm_ldi 5 <| mm_ifc .ne 14 J <| mm_lda 3 <| mm_cst (.int 0) <| mm_lld <| mm_ldi 6 <| mm_i2l <| mm_cmp <| mm_ifc .eq 14 J <| mm_bad) := by
  have hxo := XX_o
  have hxe := XX_e0
  have hfr7 : d + 7 + 1 ≤ room_1.frames := Nat.le_trans (by omega) hfr
  have hlo7 : 256 * (d + 7) + 256 ≤ room_1.locals := Nat.le_trans (by omega) hlo
  refine so_iload (pc := 506) (i := 5) X (by decide +kernel) ?_
  refine so_if_ne (pc := 508) (off := 15) (tgt := 523) X (by decide +kernel) (by decide) (hJ 14) ?_
  refine so_aload_n (pc := 511) (i := 3) X (by decide +kernel) ?_
  refine so_iconst (pc := 512) (n := 0) (v := 0) X (by decide +kernel) (by decide) ?_
  refine so_lald (pc := 513) X (by decide +kernel) ?_
  refine so_iload (pc := 514) (i := 6) X (by decide +kernel) ?_
  refine so_i2l (pc := 516) X (by decide +kernel) ?_
  refine so_lcmp (pc := 517) X (by decide +kernel) ?_
  refine so_if_eq (pc := 518) (off := 5) (tgt := 523) X (by decide +kernel) (by decide) (hJ 14) ?_
  exact so_bad
set_option maxHeartbeats 4000000 in
set_option maxRecDepth 100000 in
theorem bL_14 {l : Launch} (hlt : l.stackTraces = false) {D : va_G} {d : Nat} {C : mm_C} (hC : mm_CS l D pcl lw_T XX px_tab (d + 8) C) (hC5 : mm_CS l D pcl lw_T XX px_tab (d + 5) (Ev (d + 5))) (hfr : d + 8 + 1 ≤ room_1.frames) (hlo : 256 * (d + 8) + 256 ≤ room_1.locals) {p : Program} {e : Env} {s : State} {m : MethodId} {b L : Nat} {xs : Nat → Int32} {below : List Frame} {meth : Method} {c : Code} {A : Nat → Prop} {ad0 : Nat → Nat} {cA0 : Nat → ClassId} {J : mm_J} (X : mm_cx p room_1 s m #[Value.ref b] c code RL lw_T A D pcl 7) (hAs : ∀ q, A q → s.heap.size ≤ q) (hr : meth.sig.returnType = ret) (hlk : meth.locks = false) (hXs : va_X b L xs s s.heap) (hbl : b < s.heap.size) (hbA : ¬ A b) (had0 : ad0 (mm_ext + 300) = b) (hJ : ∀ t, mm_SK p l e room_1 s m #[Value.ref b] below meth c (lw_Z below #[Value.ref b] s) D pcl A 7 (mm_EX XX A s ad0 cA0 0) (ppL t) (J t)) : mm_SK p l e room_1 s m #[Value.ref b] below meth c (lw_Z below #[Value.ref b] s) D pcl A 7 (mm_EX XX A s ad0 cA0 0) 523 (mm_go 28 J) := by
  have hxo := XX_o
  have hxe := XX_e0
  have hfr7 : d + 7 + 1 ≤ room_1.frames := Nat.le_trans (by omega) hfr
  have hlo7 : 256 * (d + 7) + 256 ≤ room_1.locals := Nat.le_trans (by omega) hlo
  exact so_goto (pc := 523) (off := 476) (tgt := 999) X (by decide +kernel) (by decide) (hJ 28)
set_option maxHeartbeats 4000000 in
set_option maxRecDepth 100000 in
theorem bL_15 {l : Launch} (hlt : l.stackTraces = false) {D : va_G} {d : Nat} {C : mm_C} (hC : mm_CS l D pcl lw_T XX px_tab (d + 8) C) (hC5 : mm_CS l D pcl lw_T XX px_tab (d + 5) (Ev (d + 5))) (hfr : d + 8 + 1 ≤ room_1.frames) (hlo : 256 * (d + 8) + 256 ≤ room_1.locals) {p : Program} {e : Env} {s : State} {m : MethodId} {b L : Nat} {xs : Nat → Int32} {below : List Frame} {meth : Method} {c : Code} {A : Nat → Prop} {ad0 : Nat → Nat} {cA0 : Nat → ClassId} {J : mm_J} (X : mm_cx p room_1 s m #[Value.ref b] c code RL lw_T A D pcl 7) (hAs : ∀ q, A q → s.heap.size ≤ q) (hr : meth.sig.returnType = ret) (hlk : meth.locks = false) (hXs : va_X b L xs s s.heap) (hbl : b < s.heap.size) (hbA : ¬ A b) (had0 : ad0 (mm_ext + 300) = b) (hJ : ∀ t, mm_SK p l e room_1 s m #[Value.ref b] below meth c (lw_Z below #[Value.ref b] s) D pcl A 7 (mm_EX XX A s ad0 cA0 0) (ppL t) (J t)) : mm_SK p l e room_1 s m #[Value.ref b] below meth c (lw_Z below #[Value.ref b] s) D pcl A 7 (mm_EX XX A s ad0 cA0 0) 526 (mm_lda 1 <| mm_lda 0 <| mm_ldi 4 <| mm_cst (.int 1) <| mm_ii (fun x y => x + y) <| mm_sld L xs <| mm_lda 0 <| mm_ldi 4 <| mm_cst (.int 2) <| mm_ii (fun x y => x + y) <| mm_sld L xs <| mm_lda 0 <| mm_ldi 4 <| mm_cst (.int 3) <| mm_ii (fun x y => x + y) <| mm_sld L xs <| mm_lda 3 <| mm_cal (fun as μ Q => Xv (d + 5) vb_sum 4 as μ Q) (601024, 7293034) <| mm_sti 5 <| mm_lda 2 <| mm_lda 0 <| mm_ldi 4 <| mm_cst (.int 1) <| mm_ii (fun x y => x + y) <| mm_sld L xs <| mm_lda 0 <| mm_ldi 4 <| mm_cst (.int 2) <| mm_ii (fun x y => x + y) <| mm_sld L xs <| mm_lda 0 <| mm_ldi 4 <| mm_cst (.int 3) <| mm_ii (fun x y => x + y) <| mm_sld L xs <| mm_cav 150 4 7 C <| mm_sti 6 <| mm_lda 2 <| mm_cav 95 1 7 C <| mm_ldi 5 <| mm_icm .eq 16 J <| mm_bad) := by
  have hxo := XX_o
  have hxe := XX_e0
  have hfr7 : d + 7 + 1 ≤ room_1.frames := Nat.le_trans (by omega) hfr
  have hlo7 : 256 * (d + 7) + 256 ≤ room_1.locals := Nat.le_trans (by omega) hlo
  refine so_aload_n (pc := 526) (i := 1) X (by decide +kernel) ?_
  refine so_aload_n (pc := 527) (i := 0) X (by decide +kernel) ?_
  refine so_iload (pc := 528) (i := 4) X (by decide +kernel) ?_
  refine so_iconst (pc := 530) (n := 1) (v := 1) X (by decide +kernel) (by decide) ?_
  refine so_iadd (pc := 531) X (by decide +kernel) ?_
  refine so_sld (pc := 532) X hXs hbl hbA had0 (by decide +kernel) ?_
  refine so_aload_n (pc := 533) (i := 0) X (by decide +kernel) ?_
  refine so_iload (pc := 534) (i := 4) X (by decide +kernel) ?_
  refine so_iconst (pc := 536) (n := 2) (v := 2) X (by decide +kernel) (by decide) ?_
  refine so_iadd (pc := 537) X (by decide +kernel) ?_
  refine so_sld (pc := 538) X hXs hbl hbA had0 (by decide +kernel) ?_
  refine so_aload_n (pc := 539) (i := 0) X (by decide +kernel) ?_
  refine so_iload (pc := 540) (i := 4) X (by decide +kernel) ?_
  refine so_iconst (pc := 542) (n := 3) (v := 3) X (by decide +kernel) (by decide) ?_
  refine so_iadd (pc := 543) X (by decide +kernel) ?_
  refine so_sld (pc := 544) X hXs hbl hbA had0 (by decide +kernel) ?_
  refine so_aload_n (pc := 545) (i := 3) X (by decide +kernel) ?_
  refine so_cal (pc := 546) (B := (601024, 7293034)) (d1 := d + 7) (index := 81) (y := yL_sum) (bytes := cL_sum) X ⟨Nat.le_refl _, Nat.le_refl _⟩ (fun as μ Q h ad cA sz => lm_sum hlt hC5 h ad cA sz) hfr7 hlo7 lc_sum tw_714 tw_704 tw_715 (by decide +kernel) (by decide +kernel) ?_
  refine so_istore (pc := 549) (i := 5) X (by decide +kernel) (by decide) ?_
  refine so_aload_n (pc := 551) (i := 2) X (by decide +kernel) ?_
  refine so_aload_n (pc := 552) (i := 0) X (by decide +kernel) ?_
  refine so_iload (pc := 553) (i := 4) X (by decide +kernel) ?_
  refine so_iconst (pc := 555) (n := 1) (v := 1) X (by decide +kernel) (by decide) ?_
  refine so_iadd (pc := 556) X (by decide +kernel) ?_
  refine so_sld (pc := 557) X hXs hbl hbA had0 (by decide +kernel) ?_
  refine so_aload_n (pc := 558) (i := 0) X (by decide +kernel) ?_
  refine so_iload (pc := 559) (i := 4) X (by decide +kernel) ?_
  refine so_iconst (pc := 561) (n := 2) (v := 2) X (by decide +kernel) (by decide) ?_
  refine so_iadd (pc := 562) X (by decide +kernel) ?_
  refine so_sld (pc := 563) X hXs hbl hbA had0 (by decide +kernel) ?_
  refine so_aload_n (pc := 564) (i := 0) X (by decide +kernel) ?_
  refine so_iload (pc := 565) (i := 4) X (by decide +kernel) ?_
  refine so_iconst (pc := 567) (n := 3) (v := 3) X (by decide +kernel) (by decide) ?_
  refine so_iadd (pc := 568) X (by decide +kernel) ?_
  refine so_sld (pc := 569) X hXs hbl hbA had0 (by decide +kernel) ?_
  refine so_cav (pc := 570) (y := 150) (na := 4) (index := 83) (maxL := 6) (nm := yX7_sum_) (bytes := cX7_sum_) (ret := (some .int)) (ci := 7) (N := 32) (T := TX7) X hxo (fun _ _ _ _ h => h.1) hC lw_good hfr hlo rfl (by decide) tw_716 tw_717 tw_397 rfl (by decide) tw_718 tw_719 (by decide +kernel) (by decide +kernel) ?_
  refine so_istore (pc := 573) (i := 6) X (by decide +kernel) (by decide) ?_
  refine so_aload_n (pc := 575) (i := 2) X (by decide +kernel) ?_
  refine so_cav (pc := 576) (y := 95) (na := 1) (index := 78) (maxL := 1) (nm := yX7_thrown) (bytes := cX7_thrown) (ret := (some .int)) (ci := 7) (N := 32) (T := TX7) X hxo (fun _ _ _ _ h => h.1) hC lw_good hfr hlo rfl (by decide) tw_710 tw_711 tw_397 rfl (by decide) tw_712 tw_713 (by decide +kernel) (by decide +kernel) ?_
  refine so_iload (pc := 579) (i := 5) X (by decide +kernel) ?_
  refine so_icmp_eq (pc := 581) (off := 5) (tgt := 586) X (by decide +kernel) (by decide) (hJ 16) ?_
  exact so_bad
set_option maxHeartbeats 4000000 in
set_option maxRecDepth 100000 in
theorem bL_16 {l : Launch} (hlt : l.stackTraces = false) {D : va_G} {d : Nat} {C : mm_C} (hC : mm_CS l D pcl lw_T XX px_tab (d + 8) C) (hC5 : mm_CS l D pcl lw_T XX px_tab (d + 5) (Ev (d + 5))) (hfr : d + 8 + 1 ≤ room_1.frames) (hlo : 256 * (d + 8) + 256 ≤ room_1.locals) {p : Program} {e : Env} {s : State} {m : MethodId} {b L : Nat} {xs : Nat → Int32} {below : List Frame} {meth : Method} {c : Code} {A : Nat → Prop} {ad0 : Nat → Nat} {cA0 : Nat → ClassId} {J : mm_J} (X : mm_cx p room_1 s m #[Value.ref b] c code RL lw_T A D pcl 7) (hAs : ∀ q, A q → s.heap.size ≤ q) (hr : meth.sig.returnType = ret) (hlk : meth.locks = false) (hXs : va_X b L xs s s.heap) (hbl : b < s.heap.size) (hbA : ¬ A b) (had0 : ad0 (mm_ext + 300) = b) (hJ : ∀ t, mm_SK p l e room_1 s m #[Value.ref b] below meth c (lw_Z below #[Value.ref b] s) D pcl A 7 (mm_EX XX A s ad0 cA0 0) (ppL t) (J t)) : mm_SK p l e room_1 s m #[Value.ref b] below meth c (lw_Z below #[Value.ref b] s) D pcl A 7 (mm_EX XX A s ad0 cA0 0) 586 (mm_ldi 5 <| mm_ifc .ne 17 J <| mm_lda 3 <| mm_cst (.int 0) <| mm_lld <| mm_ldi 6 <| mm_i2l <| mm_cmp <| mm_ifc .eq 17 J <| mm_bad) := by
  have hxo := XX_o
  have hxe := XX_e0
  have hfr7 : d + 7 + 1 ≤ room_1.frames := Nat.le_trans (by omega) hfr
  have hlo7 : 256 * (d + 7) + 256 ≤ room_1.locals := Nat.le_trans (by omega) hlo
  refine so_iload (pc := 586) (i := 5) X (by decide +kernel) ?_
  refine so_if_ne (pc := 588) (off := 15) (tgt := 603) X (by decide +kernel) (by decide) (hJ 17) ?_
  refine so_aload_n (pc := 591) (i := 3) X (by decide +kernel) ?_
  refine so_iconst (pc := 592) (n := 0) (v := 0) X (by decide +kernel) (by decide) ?_
  refine so_lald (pc := 593) X (by decide +kernel) ?_
  refine so_iload (pc := 594) (i := 6) X (by decide +kernel) ?_
  refine so_i2l (pc := 596) X (by decide +kernel) ?_
  refine so_lcmp (pc := 597) X (by decide +kernel) ?_
  refine so_if_eq (pc := 598) (off := 5) (tgt := 603) X (by decide +kernel) (by decide) (hJ 17) ?_
  exact so_bad
set_option maxHeartbeats 4000000 in
set_option maxRecDepth 100000 in
theorem bL_17 {l : Launch} (hlt : l.stackTraces = false) {D : va_G} {d : Nat} {C : mm_C} (hC : mm_CS l D pcl lw_T XX px_tab (d + 8) C) (hC5 : mm_CS l D pcl lw_T XX px_tab (d + 5) (Ev (d + 5))) (hfr : d + 8 + 1 ≤ room_1.frames) (hlo : 256 * (d + 8) + 256 ≤ room_1.locals) {p : Program} {e : Env} {s : State} {m : MethodId} {b L : Nat} {xs : Nat → Int32} {below : List Frame} {meth : Method} {c : Code} {A : Nat → Prop} {ad0 : Nat → Nat} {cA0 : Nat → ClassId} {J : mm_J} (X : mm_cx p room_1 s m #[Value.ref b] c code RL lw_T A D pcl 7) (hAs : ∀ q, A q → s.heap.size ≤ q) (hr : meth.sig.returnType = ret) (hlk : meth.locks = false) (hXs : va_X b L xs s s.heap) (hbl : b < s.heap.size) (hbA : ¬ A b) (had0 : ad0 (mm_ext + 300) = b) (hJ : ∀ t, mm_SK p l e room_1 s m #[Value.ref b] below meth c (lw_Z below #[Value.ref b] s) D pcl A 7 (mm_EX XX A s ad0 cA0 0) (ppL t) (J t)) : mm_SK p l e room_1 s m #[Value.ref b] below meth c (lw_Z below #[Value.ref b] s) D pcl A 7 (mm_EX XX A s ad0 cA0 0) 603 (mm_go 28 J) := by
  have hxo := XX_o
  have hxe := XX_e0
  have hfr7 : d + 7 + 1 ≤ room_1.frames := Nat.le_trans (by omega) hfr
  have hlo7 : 256 * (d + 7) + 256 ≤ room_1.locals := Nat.le_trans (by omega) hlo
  exact so_goto (pc := 603) (off := 396) (tgt := 999) X (by decide +kernel) (by decide) (hJ 28)
set_option maxHeartbeats 4000000 in
set_option maxRecDepth 100000 in
theorem bL_18 {l : Launch} (hlt : l.stackTraces = false) {D : va_G} {d : Nat} {C : mm_C} (hC : mm_CS l D pcl lw_T XX px_tab (d + 8) C) (hC5 : mm_CS l D pcl lw_T XX px_tab (d + 5) (Ev (d + 5))) (hfr : d + 8 + 1 ≤ room_1.frames) (hlo : 256 * (d + 8) + 256 ≤ room_1.locals) {p : Program} {e : Env} {s : State} {m : MethodId} {b L : Nat} {xs : Nat → Int32} {below : List Frame} {meth : Method} {c : Code} {A : Nat → Prop} {ad0 : Nat → Nat} {cA0 : Nat → ClassId} {J : mm_J} (X : mm_cx p room_1 s m #[Value.ref b] c code RL lw_T A D pcl 7) (hAs : ∀ q, A q → s.heap.size ≤ q) (hr : meth.sig.returnType = ret) (hlk : meth.locks = false) (hXs : va_X b L xs s s.heap) (hbl : b < s.heap.size) (hbA : ¬ A b) (had0 : ad0 (mm_ext + 300) = b) (hJ : ∀ t, mm_SK p l e room_1 s m #[Value.ref b] below meth c (lw_Z below #[Value.ref b] s) D pcl A 7 (mm_EX XX A s ad0 cA0 0) (ppL t) (J t)) : mm_SK p l e room_1 s m #[Value.ref b] below meth c (lw_Z below #[Value.ref b] s) D pcl A 7 (mm_EX XX A s ad0 cA0 0) 606 (mm_lda 1 <| mm_lda 0 <| mm_ldi 4 <| mm_cst (.int 1) <| mm_ii (fun x y => x + y) <| mm_sld L xs <| mm_lda 0 <| mm_ldi 4 <| mm_cst (.int 2) <| mm_ii (fun x y => x + y) <| mm_sld L xs <| mm_lda 0 <| mm_ldi 4 <| mm_cst (.int 3) <| mm_ii (fun x y => x + y) <| mm_sld L xs <| mm_lda 0 <| mm_ldi 4 <| mm_cst (.int 4) <| mm_ii (fun x y => x + y) <| mm_sld L xs <| mm_cav 69 5 6 C <| mm_lda 2 <| mm_lda 0 <| mm_ldi 4 <| mm_cst (.int 1) <| mm_ii (fun x y => x + y) <| mm_sld L xs <| mm_lda 0 <| mm_ldi 4 <| mm_cst (.int 2) <| mm_ii (fun x y => x + y) <| mm_sld L xs <| mm_lda 0 <| mm_ldi 4 <| mm_cst (.int 3) <| mm_ii (fun x y => x + y) <| mm_sld L xs <| mm_lda 0 <| mm_ldi 4 <| mm_cst (.int 4) <| mm_ii (fun x y => x + y) <| mm_sld L xs <| mm_cav 138 5 7 C <| mm_icm .eq 28 J <| mm_bad) := by
  have hxo := XX_o
  have hxe := XX_e0
  have hfr7 : d + 7 + 1 ≤ room_1.frames := Nat.le_trans (by omega) hfr
  have hlo7 : 256 * (d + 7) + 256 ≤ room_1.locals := Nat.le_trans (by omega) hlo
  refine so_aload_n (pc := 606) (i := 1) X (by decide +kernel) ?_
  refine so_aload_n (pc := 607) (i := 0) X (by decide +kernel) ?_
  refine so_iload (pc := 608) (i := 4) X (by decide +kernel) ?_
  refine so_iconst (pc := 610) (n := 1) (v := 1) X (by decide +kernel) (by decide) ?_
  refine so_iadd (pc := 611) X (by decide +kernel) ?_
  refine so_sld (pc := 612) X hXs hbl hbA had0 (by decide +kernel) ?_
  refine so_aload_n (pc := 613) (i := 0) X (by decide +kernel) ?_
  refine so_iload (pc := 614) (i := 4) X (by decide +kernel) ?_
  refine so_iconst (pc := 616) (n := 2) (v := 2) X (by decide +kernel) (by decide) ?_
  refine so_iadd (pc := 617) X (by decide +kernel) ?_
  refine so_sld (pc := 618) X hXs hbl hbA had0 (by decide +kernel) ?_
  refine so_aload_n (pc := 619) (i := 0) X (by decide +kernel) ?_
  refine so_iload (pc := 620) (i := 4) X (by decide +kernel) ?_
  refine so_iconst (pc := 622) (n := 3) (v := 3) X (by decide +kernel) (by decide) ?_
  refine so_iadd (pc := 623) X (by decide +kernel) ?_
  refine so_sld (pc := 624) X hXs hbl hbA had0 (by decide +kernel) ?_
  refine so_aload_n (pc := 625) (i := 0) X (by decide +kernel) ?_
  refine so_iload (pc := 626) (i := 4) X (by decide +kernel) ?_
  refine so_iconst (pc := 628) (n := 4) (v := 4) X (by decide +kernel) (by decide) ?_
  refine so_iadd (pc := 629) X (by decide +kernel) ?_
  refine so_sld (pc := 630) X hXs hbl hbA had0 (by decide +kernel) ?_
  refine so_cav (pc := 631) (y := 69) (na := 5) (index := 84) (maxL := 5) (nm := yX6_cell) (bytes := cX6_cell) (ret := (some .int)) (ci := 6) (N := 14) (T := TX6) X hxo (fun _ _ _ _ h => h.1) hC lw_good hfr hlo rfl (by decide) tw_720 tw_721 tw_259 rfl (by decide) tw_722 tw_723 (by decide +kernel) (by decide +kernel) ?_
  refine so_aload_n (pc := 634) (i := 2) X (by decide +kernel) ?_
  refine so_aload_n (pc := 635) (i := 0) X (by decide +kernel) ?_
  refine so_iload (pc := 636) (i := 4) X (by decide +kernel) ?_
  refine so_iconst (pc := 638) (n := 1) (v := 1) X (by decide +kernel) (by decide) ?_
  refine so_iadd (pc := 639) X (by decide +kernel) ?_
  refine so_sld (pc := 640) X hXs hbl hbA had0 (by decide +kernel) ?_
  refine so_aload_n (pc := 641) (i := 0) X (by decide +kernel) ?_
  refine so_iload (pc := 642) (i := 4) X (by decide +kernel) ?_
  refine so_iconst (pc := 644) (n := 2) (v := 2) X (by decide +kernel) (by decide) ?_
  refine so_iadd (pc := 645) X (by decide +kernel) ?_
  refine so_sld (pc := 646) X hXs hbl hbA had0 (by decide +kernel) ?_
  refine so_aload_n (pc := 647) (i := 0) X (by decide +kernel) ?_
  refine so_iload (pc := 648) (i := 4) X (by decide +kernel) ?_
  refine so_iconst (pc := 650) (n := 3) (v := 3) X (by decide +kernel) (by decide) ?_
  refine so_iadd (pc := 651) X (by decide +kernel) ?_
  refine so_sld (pc := 652) X hXs hbl hbA had0 (by decide +kernel) ?_
  refine so_aload_n (pc := 653) (i := 0) X (by decide +kernel) ?_
  refine so_iload (pc := 654) (i := 4) X (by decide +kernel) ?_
  refine so_iconst (pc := 656) (n := 4) (v := 4) X (by decide +kernel) (by decide) ?_
  refine so_iadd (pc := 657) X (by decide +kernel) ?_
  refine so_sld (pc := 658) X hXs hbl hbA had0 (by decide +kernel) ?_
  refine so_cav (pc := 659) (y := 138) (na := 5) (index := 88) (maxL := 8) (nm := yX7_cell) (bytes := cX7_cell) (ret := (some .int)) (ci := 7) (N := 32) (T := TX7) X hxo (fun _ _ _ _ h => h.1) hC lw_good hfr hlo rfl (by decide) tw_724 tw_725 tw_397 rfl (by decide) tw_726 tw_727 (by decide +kernel) (by decide +kernel) ?_
  refine so_icmp_eq (pc := 662) (off := 337) (tgt := 999) X (by decide +kernel) (by decide) (hJ 28) ?_
  exact so_bad
set_option maxHeartbeats 4000000 in
set_option maxRecDepth 100000 in
theorem bL_19 {l : Launch} (hlt : l.stackTraces = false) {D : va_G} {d : Nat} {C : mm_C} (hC : mm_CS l D pcl lw_T XX px_tab (d + 8) C) (hC5 : mm_CS l D pcl lw_T XX px_tab (d + 5) (Ev (d + 5))) (hfr : d + 8 + 1 ≤ room_1.frames) (hlo : 256 * (d + 8) + 256 ≤ room_1.locals) {p : Program} {e : Env} {s : State} {m : MethodId} {b L : Nat} {xs : Nat → Int32} {below : List Frame} {meth : Method} {c : Code} {A : Nat → Prop} {ad0 : Nat → Nat} {cA0 : Nat → ClassId} {J : mm_J} (X : mm_cx p room_1 s m #[Value.ref b] c code RL lw_T A D pcl 7) (hAs : ∀ q, A q → s.heap.size ≤ q) (hr : meth.sig.returnType = ret) (hlk : meth.locks = false) (hXs : va_X b L xs s s.heap) (hbl : b < s.heap.size) (hbA : ¬ A b) (had0 : ad0 (mm_ext + 300) = b) (hJ : ∀ t, mm_SK p l e room_1 s m #[Value.ref b] below meth c (lw_Z below #[Value.ref b] s) D pcl A 7 (mm_EX XX A s ad0 cA0 0) (ppL t) (J t)) : mm_SK p l e room_1 s m #[Value.ref b] below meth c (lw_Z below #[Value.ref b] s) D pcl A 7 (mm_EX XX A s ad0 cA0 0) 667 (mm_lda 1 <| mm_lda 0 <| mm_ldi 4 <| mm_cst (.int 1) <| mm_ii (fun x y => x + y) <| mm_sld L xs <| mm_cav 70 2 6 C <| mm_lda 2 <| mm_lda 0 <| mm_ldi 4 <| mm_cst (.int 1) <| mm_ii (fun x y => x + y) <| mm_sld L xs <| mm_cav 139 2 7 C <| mm_icm .eq 28 J <| mm_bad) := by
  have hxo := XX_o
  have hxe := XX_e0
  have hfr7 : d + 7 + 1 ≤ room_1.frames := Nat.le_trans (by omega) hfr
  have hlo7 : 256 * (d + 7) + 256 ≤ room_1.locals := Nat.le_trans (by omega) hlo
  refine so_aload_n (pc := 667) (i := 1) X (by decide +kernel) ?_
  refine so_aload_n (pc := 668) (i := 0) X (by decide +kernel) ?_
  refine so_iload (pc := 669) (i := 4) X (by decide +kernel) ?_
  refine so_iconst (pc := 671) (n := 1) (v := 1) X (by decide +kernel) (by decide) ?_
  refine so_iadd (pc := 672) X (by decide +kernel) ?_
  refine so_sld (pc := 673) X hXs hbl hbA had0 (by decide +kernel) ?_
  refine so_cav (pc := 674) (y := 70) (na := 2) (index := 89) (maxL := 3) (nm := yX6_cursor) (bytes := cX6_cursor) (ret := (some .int)) (ci := 6) (N := 14) (T := TX6) X hxo (fun _ _ _ _ h => h.1) hC lw_good hfr hlo rfl (by decide) tw_728 tw_729 tw_259 rfl (by decide) tw_730 tw_731 (by decide +kernel) (by decide +kernel) ?_
  refine so_aload_n (pc := 677) (i := 2) X (by decide +kernel) ?_
  refine so_aload_n (pc := 678) (i := 0) X (by decide +kernel) ?_
  refine so_iload (pc := 679) (i := 4) X (by decide +kernel) ?_
  refine so_iconst (pc := 681) (n := 1) (v := 1) X (by decide +kernel) (by decide) ?_
  refine so_iadd (pc := 682) X (by decide +kernel) ?_
  refine so_sld (pc := 683) X hXs hbl hbA had0 (by decide +kernel) ?_
  refine so_cav (pc := 684) (y := 139) (na := 2) (index := 92) (maxL := 3) (nm := yX7_cursor) (bytes := cX7_cursor) (ret := (some .int)) (ci := 7) (N := 32) (T := TX7) X hxo (fun _ _ _ _ h => h.1) hC lw_good hfr hlo rfl (by decide) tw_732 tw_733 tw_397 rfl (by decide) tw_734 tw_735 (by decide +kernel) (by decide +kernel) ?_
  refine so_icmp_eq (pc := 687) (off := 312) (tgt := 999) X (by decide +kernel) (by decide) (hJ 28) ?_
  exact so_bad
set_option maxHeartbeats 4000000 in
set_option maxRecDepth 100000 in
theorem bL_20 {l : Launch} (hlt : l.stackTraces = false) {D : va_G} {d : Nat} {C : mm_C} (hC : mm_CS l D pcl lw_T XX px_tab (d + 8) C) (hC5 : mm_CS l D pcl lw_T XX px_tab (d + 5) (Ev (d + 5))) (hfr : d + 8 + 1 ≤ room_1.frames) (hlo : 256 * (d + 8) + 256 ≤ room_1.locals) {p : Program} {e : Env} {s : State} {m : MethodId} {b L : Nat} {xs : Nat → Int32} {below : List Frame} {meth : Method} {c : Code} {A : Nat → Prop} {ad0 : Nat → Nat} {cA0 : Nat → ClassId} {J : mm_J} (X : mm_cx p room_1 s m #[Value.ref b] c code RL lw_T A D pcl 7) (hAs : ∀ q, A q → s.heap.size ≤ q) (hr : meth.sig.returnType = ret) (hlk : meth.locks = false) (hXs : va_X b L xs s s.heap) (hbl : b < s.heap.size) (hbA : ¬ A b) (had0 : ad0 (mm_ext + 300) = b) (hJ : ∀ t, mm_SK p l e room_1 s m #[Value.ref b] below meth c (lw_Z below #[Value.ref b] s) D pcl A 7 (mm_EX XX A s ad0 cA0 0) (ppL t) (J t)) : mm_SK p l e room_1 s m #[Value.ref b] below meth c (lw_Z below #[Value.ref b] s) D pcl A 7 (mm_EX XX A s ad0 cA0 0) 692 (mm_lda 1 <| mm_lda 0 <| mm_ldi 4 <| mm_cst (.int 1) <| mm_ii (fun x y => x + y) <| mm_sld L xs <| mm_cav 71 2 6 C <| mm_lda 2 <| mm_lda 0 <| mm_ldi 4 <| mm_cst (.int 1) <| mm_ii (fun x y => x + y) <| mm_sld L xs <| mm_cav 140 2 7 C <| mm_icm .eq 28 J <| mm_bad) := by
  have hxo := XX_o
  have hxe := XX_e0
  have hfr7 : d + 7 + 1 ≤ room_1.frames := Nat.le_trans (by omega) hfr
  have hlo7 : 256 * (d + 7) + 256 ≤ room_1.locals := Nat.le_trans (by omega) hlo
  refine so_aload_n (pc := 692) (i := 1) X (by decide +kernel) ?_
  refine so_aload_n (pc := 693) (i := 0) X (by decide +kernel) ?_
  refine so_iload (pc := 694) (i := 4) X (by decide +kernel) ?_
  refine so_iconst (pc := 696) (n := 1) (v := 1) X (by decide +kernel) (by decide) ?_
  refine so_iadd (pc := 697) X (by decide +kernel) ?_
  refine so_sld (pc := 698) X hXs hbl hbA had0 (by decide +kernel) ?_
  refine so_cav (pc := 699) (y := 71) (na := 2) (index := 93) (maxL := 3) (nm := yX6_step) (bytes := cX6_step) (ret := (some .int)) (ci := 6) (N := 14) (T := TX6) X hxo (fun _ _ _ _ h => h.1) hC lw_good hfr hlo rfl (by decide) tw_736 tw_737 tw_259 rfl (by decide) tw_738 tw_739 (by decide +kernel) (by decide +kernel) ?_
  refine so_aload_n (pc := 702) (i := 2) X (by decide +kernel) ?_
  refine so_aload_n (pc := 703) (i := 0) X (by decide +kernel) ?_
  refine so_iload (pc := 704) (i := 4) X (by decide +kernel) ?_
  refine so_iconst (pc := 706) (n := 1) (v := 1) X (by decide +kernel) (by decide) ?_
  refine so_iadd (pc := 707) X (by decide +kernel) ?_
  refine so_sld (pc := 708) X hXs hbl hbA had0 (by decide +kernel) ?_
  refine so_cav (pc := 709) (y := 140) (na := 2) (index := 96) (maxL := 3) (nm := yX7_step) (bytes := cX7_step) (ret := (some .int)) (ci := 7) (N := 32) (T := TX7) X hxo (fun _ _ _ _ h => h.1) hC lw_good hfr hlo rfl (by decide) tw_740 tw_741 tw_397 rfl (by decide) tw_742 tw_743 (by decide +kernel) (by decide +kernel) ?_
  refine so_icmp_eq (pc := 712) (off := 287) (tgt := 999) X (by decide +kernel) (by decide) (hJ 28) ?_
  exact so_bad
set_option maxHeartbeats 4000000 in
set_option maxRecDepth 100000 in
theorem bL_21 {l : Launch} (hlt : l.stackTraces = false) {D : va_G} {d : Nat} {C : mm_C} (hC : mm_CS l D pcl lw_T XX px_tab (d + 8) C) (hC5 : mm_CS l D pcl lw_T XX px_tab (d + 5) (Ev (d + 5))) (hfr : d + 8 + 1 ≤ room_1.frames) (hlo : 256 * (d + 8) + 256 ≤ room_1.locals) {p : Program} {e : Env} {s : State} {m : MethodId} {b L : Nat} {xs : Nat → Int32} {below : List Frame} {meth : Method} {c : Code} {A : Nat → Prop} {ad0 : Nat → Nat} {cA0 : Nat → ClassId} {J : mm_J} (X : mm_cx p room_1 s m #[Value.ref b] c code RL lw_T A D pcl 7) (hAs : ∀ q, A q → s.heap.size ≤ q) (hr : meth.sig.returnType = ret) (hlk : meth.locks = false) (hXs : va_X b L xs s s.heap) (hbl : b < s.heap.size) (hbA : ¬ A b) (had0 : ad0 (mm_ext + 300) = b) (hJ : ∀ t, mm_SK p l e room_1 s m #[Value.ref b] below meth c (lw_Z below #[Value.ref b] s) D pcl A 7 (mm_EX XX A s ad0 cA0 0) (ppL t) (J t)) : mm_SK p l e room_1 s m #[Value.ref b] below meth c (lw_Z below #[Value.ref b] s) D pcl A 7 (mm_EX XX A s ad0 cA0 0) 717 (mm_lda 1 <| mm_lda 0 <| mm_ldi 4 <| mm_cst (.int 1) <| mm_ii (fun x y => x + y) <| mm_sld L xs <| mm_lda 0 <| mm_ldi 4 <| mm_cst (.int 2) <| mm_ii (fun x y => x + y) <| mm_sld L xs <| mm_lda 0 <| mm_ldi 4 <| mm_cst (.int 3) <| mm_ii (fun x y => x + y) <| mm_sld L xs <| mm_cav 72 4 6 C <| mm_lda 2 <| mm_lda 0 <| mm_ldi 4 <| mm_cst (.int 1) <| mm_ii (fun x y => x + y) <| mm_sld L xs <| mm_lda 0 <| mm_ldi 4 <| mm_cst (.int 2) <| mm_ii (fun x y => x + y) <| mm_sld L xs <| mm_lda 0 <| mm_ldi 4 <| mm_cst (.int 3) <| mm_ii (fun x y => x + y) <| mm_sld L xs <| mm_cav 151 4 7 C <| mm_icm .eq 28 J <| mm_bad) := by
  have hxo := XX_o
  have hxe := XX_e0
  have hfr7 : d + 7 + 1 ≤ room_1.frames := Nat.le_trans (by omega) hfr
  have hlo7 : 256 * (d + 7) + 256 ≤ room_1.locals := Nat.le_trans (by omega) hlo
  refine so_aload_n (pc := 717) (i := 1) X (by decide +kernel) ?_
  refine so_aload_n (pc := 718) (i := 0) X (by decide +kernel) ?_
  refine so_iload (pc := 719) (i := 4) X (by decide +kernel) ?_
  refine so_iconst (pc := 721) (n := 1) (v := 1) X (by decide +kernel) (by decide) ?_
  refine so_iadd (pc := 722) X (by decide +kernel) ?_
  refine so_sld (pc := 723) X hXs hbl hbA had0 (by decide +kernel) ?_
  refine so_aload_n (pc := 724) (i := 0) X (by decide +kernel) ?_
  refine so_iload (pc := 725) (i := 4) X (by decide +kernel) ?_
  refine so_iconst (pc := 727) (n := 2) (v := 2) X (by decide +kernel) (by decide) ?_
  refine so_iadd (pc := 728) X (by decide +kernel) ?_
  refine so_sld (pc := 729) X hXs hbl hbA had0 (by decide +kernel) ?_
  refine so_aload_n (pc := 730) (i := 0) X (by decide +kernel) ?_
  refine so_iload (pc := 731) (i := 4) X (by decide +kernel) ?_
  refine so_iconst (pc := 733) (n := 3) (v := 3) X (by decide +kernel) (by decide) ?_
  refine so_iadd (pc := 734) X (by decide +kernel) ?_
  refine so_sld (pc := 735) X hXs hbl hbA had0 (by decide +kernel) ?_
  refine so_cav (pc := 736) (y := 72) (na := 4) (index := 97) (maxL := 4) (nm := yX6_solved) (bytes := cX6_solved) (ret := (some .int)) (ci := 6) (N := 14) (T := TX6) X hxo (fun _ _ _ _ h => h.1) hC lw_good hfr hlo rfl (by decide) tw_744 tw_745 tw_259 rfl (by decide) tw_746 tw_747 (by decide +kernel) (by decide +kernel) ?_
  refine so_aload_n (pc := 739) (i := 2) X (by decide +kernel) ?_
  refine so_aload_n (pc := 740) (i := 0) X (by decide +kernel) ?_
  refine so_iload (pc := 741) (i := 4) X (by decide +kernel) ?_
  refine so_iconst (pc := 743) (n := 1) (v := 1) X (by decide +kernel) (by decide) ?_
  refine so_iadd (pc := 744) X (by decide +kernel) ?_
  refine so_sld (pc := 745) X hXs hbl hbA had0 (by decide +kernel) ?_
  refine so_aload_n (pc := 746) (i := 0) X (by decide +kernel) ?_
  refine so_iload (pc := 747) (i := 4) X (by decide +kernel) ?_
  refine so_iconst (pc := 749) (n := 2) (v := 2) X (by decide +kernel) (by decide) ?_
  refine so_iadd (pc := 750) X (by decide +kernel) ?_
  refine so_sld (pc := 751) X hXs hbl hbA had0 (by decide +kernel) ?_
  refine so_aload_n (pc := 752) (i := 0) X (by decide +kernel) ?_
  refine so_iload (pc := 753) (i := 4) X (by decide +kernel) ?_
  refine so_iconst (pc := 755) (n := 3) (v := 3) X (by decide +kernel) (by decide) ?_
  refine so_iadd (pc := 756) X (by decide +kernel) ?_
  refine so_sld (pc := 757) X hXs hbl hbA had0 (by decide +kernel) ?_
  refine so_cav (pc := 758) (y := 151) (na := 4) (index := 100) (maxL := 4) (nm := yX7_solved) (bytes := cX7_solved) (ret := (some .int)) (ci := 7) (N := 32) (T := TX7) X hxo (fun _ _ _ _ h => h.1) hC lw_good hfr hlo rfl (by decide) tw_748 tw_749 tw_397 rfl (by decide) tw_750 tw_751 (by decide +kernel) (by decide +kernel) ?_
  refine so_icmp_eq (pc := 761) (off := 238) (tgt := 999) X (by decide +kernel) (by decide) (hJ 28) ?_
  exact so_bad
set_option maxHeartbeats 4000000 in
set_option maxRecDepth 100000 in
theorem bL_22 {l : Launch} (hlt : l.stackTraces = false) {D : va_G} {d : Nat} {C : mm_C} (hC : mm_CS l D pcl lw_T XX px_tab (d + 8) C) (hC5 : mm_CS l D pcl lw_T XX px_tab (d + 5) (Ev (d + 5))) (hfr : d + 8 + 1 ≤ room_1.frames) (hlo : 256 * (d + 8) + 256 ≤ room_1.locals) {p : Program} {e : Env} {s : State} {m : MethodId} {b L : Nat} {xs : Nat → Int32} {below : List Frame} {meth : Method} {c : Code} {A : Nat → Prop} {ad0 : Nat → Nat} {cA0 : Nat → ClassId} {J : mm_J} (X : mm_cx p room_1 s m #[Value.ref b] c code RL lw_T A D pcl 7) (hAs : ∀ q, A q → s.heap.size ≤ q) (hr : meth.sig.returnType = ret) (hlk : meth.locks = false) (hXs : va_X b L xs s s.heap) (hbl : b < s.heap.size) (hbA : ¬ A b) (had0 : ad0 (mm_ext + 300) = b) (hJ : ∀ t, mm_SK p l e room_1 s m #[Value.ref b] below meth c (lw_Z below #[Value.ref b] s) D pcl A 7 (mm_EX XX A s ad0 cA0 0) (ppL t) (J t)) : mm_SK p l e room_1 s m #[Value.ref b] below meth c (lw_Z below #[Value.ref b] s) D pcl A 7 (mm_EX XX A s ad0 cA0 0) 766 (mm_lda 1 <| mm_lda 0 <| mm_ldi 4 <| mm_cst (.int 1) <| mm_ii (fun x y => x + y) <| mm_sld L xs <| mm_lda 0 <| mm_ldi 4 <| mm_cst (.int 2) <| mm_ii (fun x y => x + y) <| mm_sld L xs <| mm_lda 0 <| mm_ldi 4 <| mm_cst (.int 3) <| mm_ii (fun x y => x + y) <| mm_sld L xs <| mm_lda 0 <| mm_ldi 4 <| mm_cst (.int 4) <| mm_ii (fun x y => x + y) <| mm_sld L xs <| mm_cav 73 5 6 C <| mm_lda 2 <| mm_lda 0 <| mm_ldi 4 <| mm_cst (.int 1) <| mm_ii (fun x y => x + y) <| mm_sld L xs <| mm_lda 0 <| mm_ldi 4 <| mm_cst (.int 2) <| mm_ii (fun x y => x + y) <| mm_sld L xs <| mm_lda 0 <| mm_ldi 4 <| mm_cst (.int 3) <| mm_ii (fun x y => x + y) <| mm_sld L xs <| mm_lda 0 <| mm_ldi 4 <| mm_cst (.int 4) <| mm_ii (fun x y => x + y) <| mm_sld L xs <| mm_cav 152 5 7 C <| mm_icm .eq 28 J <| mm_bad) := by
  have hxo := XX_o
  have hxe := XX_e0
  have hfr7 : d + 7 + 1 ≤ room_1.frames := Nat.le_trans (by omega) hfr
  have hlo7 : 256 * (d + 7) + 256 ≤ room_1.locals := Nat.le_trans (by omega) hlo
  refine so_aload_n (pc := 766) (i := 1) X (by decide +kernel) ?_
  refine so_aload_n (pc := 767) (i := 0) X (by decide +kernel) ?_
  refine so_iload (pc := 768) (i := 4) X (by decide +kernel) ?_
  refine so_iconst (pc := 770) (n := 1) (v := 1) X (by decide +kernel) (by decide) ?_
  refine so_iadd (pc := 771) X (by decide +kernel) ?_
  refine so_sld (pc := 772) X hXs hbl hbA had0 (by decide +kernel) ?_
  refine so_aload_n (pc := 773) (i := 0) X (by decide +kernel) ?_
  refine so_iload (pc := 774) (i := 4) X (by decide +kernel) ?_
  refine so_iconst (pc := 776) (n := 2) (v := 2) X (by decide +kernel) (by decide) ?_
  refine so_iadd (pc := 777) X (by decide +kernel) ?_
  refine so_sld (pc := 778) X hXs hbl hbA had0 (by decide +kernel) ?_
  refine so_aload_n (pc := 779) (i := 0) X (by decide +kernel) ?_
  refine so_iload (pc := 780) (i := 4) X (by decide +kernel) ?_
  refine so_iconst (pc := 782) (n := 3) (v := 3) X (by decide +kernel) (by decide) ?_
  refine so_iadd (pc := 783) X (by decide +kernel) ?_
  refine so_sld (pc := 784) X hXs hbl hbA had0 (by decide +kernel) ?_
  refine so_aload_n (pc := 785) (i := 0) X (by decide +kernel) ?_
  refine so_iload (pc := 786) (i := 4) X (by decide +kernel) ?_
  refine so_iconst (pc := 788) (n := 4) (v := 4) X (by decide +kernel) (by decide) ?_
  refine so_iadd (pc := 789) X (by decide +kernel) ?_
  refine so_sld (pc := 790) X hXs hbl hbA had0 (by decide +kernel) ?_
  refine so_cav (pc := 791) (y := 73) (na := 5) (index := 101) (maxL := 5) (nm := yX6_would) (bytes := cX6_would) (ret := (some .int)) (ci := 6) (N := 14) (T := TX6) X hxo (fun _ _ _ _ h => h.1) hC lw_good hfr hlo rfl (by decide) tw_752 tw_753 tw_259 rfl (by decide) tw_754 tw_755 (by decide +kernel) (by decide +kernel) ?_
  refine so_aload_n (pc := 794) (i := 2) X (by decide +kernel) ?_
  refine so_aload_n (pc := 795) (i := 0) X (by decide +kernel) ?_
  refine so_iload (pc := 796) (i := 4) X (by decide +kernel) ?_
  refine so_iconst (pc := 798) (n := 1) (v := 1) X (by decide +kernel) (by decide) ?_
  refine so_iadd (pc := 799) X (by decide +kernel) ?_
  refine so_sld (pc := 800) X hXs hbl hbA had0 (by decide +kernel) ?_
  refine so_aload_n (pc := 801) (i := 0) X (by decide +kernel) ?_
  refine so_iload (pc := 802) (i := 4) X (by decide +kernel) ?_
  refine so_iconst (pc := 804) (n := 2) (v := 2) X (by decide +kernel) (by decide) ?_
  refine so_iadd (pc := 805) X (by decide +kernel) ?_
  refine so_sld (pc := 806) X hXs hbl hbA had0 (by decide +kernel) ?_
  refine so_aload_n (pc := 807) (i := 0) X (by decide +kernel) ?_
  refine so_iload (pc := 808) (i := 4) X (by decide +kernel) ?_
  refine so_iconst (pc := 810) (n := 3) (v := 3) X (by decide +kernel) (by decide) ?_
  refine so_iadd (pc := 811) X (by decide +kernel) ?_
  refine so_sld (pc := 812) X hXs hbl hbA had0 (by decide +kernel) ?_
  refine so_aload_n (pc := 813) (i := 0) X (by decide +kernel) ?_
  refine so_iload (pc := 814) (i := 4) X (by decide +kernel) ?_
  refine so_iconst (pc := 816) (n := 4) (v := 4) X (by decide +kernel) (by decide) ?_
  refine so_iadd (pc := 817) X (by decide +kernel) ?_
  refine so_sld (pc := 818) X hXs hbl hbA had0 (by decide +kernel) ?_
  refine so_cav (pc := 819) (y := 152) (na := 5) (index := 104) (maxL := 5) (nm := yX7_would) (bytes := cX7_would) (ret := (some .int)) (ci := 7) (N := 32) (T := TX7) X hxo (fun _ _ _ _ h => h.1) hC lw_good hfr hlo rfl (by decide) tw_756 tw_757 tw_397 rfl (by decide) tw_758 tw_759 (by decide +kernel) (by decide +kernel) ?_
  refine so_icmp_eq (pc := 822) (off := 177) (tgt := 999) X (by decide +kernel) (by decide) (hJ 28) ?_
  exact so_bad
set_option maxHeartbeats 4000000 in
set_option maxRecDepth 100000 in
theorem bL_23 {l : Launch} (hlt : l.stackTraces = false) {D : va_G} {d : Nat} {C : mm_C} (hC : mm_CS l D pcl lw_T XX px_tab (d + 8) C) (hC5 : mm_CS l D pcl lw_T XX px_tab (d + 5) (Ev (d + 5))) (hfr : d + 8 + 1 ≤ room_1.frames) (hlo : 256 * (d + 8) + 256 ≤ room_1.locals) {p : Program} {e : Env} {s : State} {m : MethodId} {b L : Nat} {xs : Nat → Int32} {below : List Frame} {meth : Method} {c : Code} {A : Nat → Prop} {ad0 : Nat → Nat} {cA0 : Nat → ClassId} {J : mm_J} (X : mm_cx p room_1 s m #[Value.ref b] c code RL lw_T A D pcl 7) (hAs : ∀ q, A q → s.heap.size ≤ q) (hr : meth.sig.returnType = ret) (hlk : meth.locks = false) (hXs : va_X b L xs s s.heap) (hbl : b < s.heap.size) (hbA : ¬ A b) (had0 : ad0 (mm_ext + 300) = b) (hJ : ∀ t, mm_SK p l e room_1 s m #[Value.ref b] below meth c (lw_Z below #[Value.ref b] s) D pcl A 7 (mm_EX XX A s ad0 cA0 0) (ppL t) (J t)) : mm_SK p l e room_1 s m #[Value.ref b] below meth c (lw_Z below #[Value.ref b] s) D pcl A 7 (mm_EX XX A s ad0 cA0 0) 827 (mm_lda 1 <| mm_lda 0 <| mm_ldi 4 <| mm_cst (.int 1) <| mm_ii (fun x y => x + y) <| mm_sld L xs <| mm_lda 0 <| mm_ldi 4 <| mm_cst (.int 2) <| mm_ii (fun x y => x + y) <| mm_sld L xs <| mm_lda 0 <| mm_ldi 4 <| mm_cst (.int 3) <| mm_ii (fun x y => x + y) <| mm_sld L xs <| mm_lda 0 <| mm_ldi 4 <| mm_cst (.int 4) <| mm_ii (fun x y => x + y) <| mm_sld L xs <| mm_cav 74 5 6 C <| mm_lda 2 <| mm_lda 0 <| mm_ldi 4 <| mm_cst (.int 1) <| mm_ii (fun x y => x + y) <| mm_sld L xs <| mm_lda 0 <| mm_ldi 4 <| mm_cst (.int 2) <| mm_ii (fun x y => x + y) <| mm_sld L xs <| mm_lda 0 <| mm_ldi 4 <| mm_cst (.int 3) <| mm_ii (fun x y => x + y) <| mm_sld L xs <| mm_lda 0 <| mm_ldi 4 <| mm_cst (.int 4) <| mm_ii (fun x y => x + y) <| mm_sld L xs <| mm_cav 153 5 7 C <| mm_cmp <| mm_ifc .eq 28 J <| mm_bad) := by
  have hxo := XX_o
  have hxe := XX_e0
  have hfr7 : d + 7 + 1 ≤ room_1.frames := Nat.le_trans (by omega) hfr
  have hlo7 : 256 * (d + 7) + 256 ≤ room_1.locals := Nat.le_trans (by omega) hlo
  refine so_aload_n (pc := 827) (i := 1) X (by decide +kernel) ?_
  refine so_aload_n (pc := 828) (i := 0) X (by decide +kernel) ?_
  refine so_iload (pc := 829) (i := 4) X (by decide +kernel) ?_
  refine so_iconst (pc := 831) (n := 1) (v := 1) X (by decide +kernel) (by decide) ?_
  refine so_iadd (pc := 832) X (by decide +kernel) ?_
  refine so_sld (pc := 833) X hXs hbl hbA had0 (by decide +kernel) ?_
  refine so_aload_n (pc := 834) (i := 0) X (by decide +kernel) ?_
  refine so_iload (pc := 835) (i := 4) X (by decide +kernel) ?_
  refine so_iconst (pc := 837) (n := 2) (v := 2) X (by decide +kernel) (by decide) ?_
  refine so_iadd (pc := 838) X (by decide +kernel) ?_
  refine so_sld (pc := 839) X hXs hbl hbA had0 (by decide +kernel) ?_
  refine so_aload_n (pc := 840) (i := 0) X (by decide +kernel) ?_
  refine so_iload (pc := 841) (i := 4) X (by decide +kernel) ?_
  refine so_iconst (pc := 843) (n := 3) (v := 3) X (by decide +kernel) (by decide) ?_
  refine so_iadd (pc := 844) X (by decide +kernel) ?_
  refine so_sld (pc := 845) X hXs hbl hbA had0 (by decide +kernel) ?_
  refine so_aload_n (pc := 846) (i := 0) X (by decide +kernel) ?_
  refine so_iload (pc := 847) (i := 4) X (by decide +kernel) ?_
  refine so_iconst (pc := 849) (n := 4) (v := 4) X (by decide +kernel) (by decide) ?_
  refine so_iadd (pc := 850) X (by decide +kernel) ?_
  refine so_sld (pc := 851) X hXs hbl hbA had0 (by decide +kernel) ?_
  refine so_cav (pc := 852) (y := 74) (na := 5) (index := 105) (maxL := 6) (nm := yX6_world) (bytes := cX6_world) (ret := (some .long)) (ci := 6) (N := 14) (T := TX6) X hxo (fun _ _ _ _ h => h.1) hC lw_good hfr hlo rfl (by decide) tw_760 tw_761 tw_259 rfl (by decide) tw_762 tw_763 (by decide +kernel) (by decide +kernel) ?_
  refine so_aload_n (pc := 855) (i := 2) X (by decide +kernel) ?_
  refine so_aload_n (pc := 856) (i := 0) X (by decide +kernel) ?_
  refine so_iload (pc := 857) (i := 4) X (by decide +kernel) ?_
  refine so_iconst (pc := 859) (n := 1) (v := 1) X (by decide +kernel) (by decide) ?_
  refine so_iadd (pc := 860) X (by decide +kernel) ?_
  refine so_sld (pc := 861) X hXs hbl hbA had0 (by decide +kernel) ?_
  refine so_aload_n (pc := 862) (i := 0) X (by decide +kernel) ?_
  refine so_iload (pc := 863) (i := 4) X (by decide +kernel) ?_
  refine so_iconst (pc := 865) (n := 2) (v := 2) X (by decide +kernel) (by decide) ?_
  refine so_iadd (pc := 866) X (by decide +kernel) ?_
  refine so_sld (pc := 867) X hXs hbl hbA had0 (by decide +kernel) ?_
  refine so_aload_n (pc := 868) (i := 0) X (by decide +kernel) ?_
  refine so_iload (pc := 869) (i := 4) X (by decide +kernel) ?_
  refine so_iconst (pc := 871) (n := 3) (v := 3) X (by decide +kernel) (by decide) ?_
  refine so_iadd (pc := 872) X (by decide +kernel) ?_
  refine so_sld (pc := 873) X hXs hbl hbA had0 (by decide +kernel) ?_
  refine so_aload_n (pc := 874) (i := 0) X (by decide +kernel) ?_
  refine so_iload (pc := 875) (i := 4) X (by decide +kernel) ?_
  refine so_iconst (pc := 877) (n := 4) (v := 4) X (by decide +kernel) (by decide) ?_
  refine so_iadd (pc := 878) X (by decide +kernel) ?_
  refine so_sld (pc := 879) X hXs hbl hbA had0 (by decide +kernel) ?_
  refine so_cav (pc := 880) (y := 153) (na := 5) (index := 109) (maxL := 16) (nm := yX7_world) (bytes := cX7_world) (ret := (some .long)) (ci := 7) (N := 32) (T := TX7) X hxo (fun _ _ _ _ h => h.1) hC lw_good hfr hlo rfl (by decide) tw_764 tw_765 tw_397 rfl (by decide) tw_766 tw_767 (by decide +kernel) (by decide +kernel) ?_
  refine so_lcmp (pc := 883) X (by decide +kernel) ?_
  refine so_if_eq (pc := 884) (off := 115) (tgt := 999) X (by decide +kernel) (by decide) (hJ 28) ?_
  exact so_bad
set_option maxHeartbeats 4000000 in
set_option maxRecDepth 100000 in
theorem bL_24 {l : Launch} (hlt : l.stackTraces = false) {D : va_G} {d : Nat} {C : mm_C} (hC : mm_CS l D pcl lw_T XX px_tab (d + 8) C) (hC5 : mm_CS l D pcl lw_T XX px_tab (d + 5) (Ev (d + 5))) (hfr : d + 8 + 1 ≤ room_1.frames) (hlo : 256 * (d + 8) + 256 ≤ room_1.locals) {p : Program} {e : Env} {s : State} {m : MethodId} {b L : Nat} {xs : Nat → Int32} {below : List Frame} {meth : Method} {c : Code} {A : Nat → Prop} {ad0 : Nat → Nat} {cA0 : Nat → ClassId} {J : mm_J} (X : mm_cx p room_1 s m #[Value.ref b] c code RL lw_T A D pcl 7) (hAs : ∀ q, A q → s.heap.size ≤ q) (hr : meth.sig.returnType = ret) (hlk : meth.locks = false) (hXs : va_X b L xs s s.heap) (hbl : b < s.heap.size) (hbA : ¬ A b) (had0 : ad0 (mm_ext + 300) = b) (hJ : ∀ t, mm_SK p l e room_1 s m #[Value.ref b] below meth c (lw_Z below #[Value.ref b] s) D pcl A 7 (mm_EX XX A s ad0 cA0 0) (ppL t) (J t)) : mm_SK p l e room_1 s m #[Value.ref b] below meth c (lw_Z below #[Value.ref b] s) D pcl A 7 (mm_EX XX A s ad0 cA0 0) 889 (mm_lda 1 <| mm_lda 0 <| mm_ldi 4 <| mm_cst (.int 1) <| mm_ii (fun x y => x + y) <| mm_sld L xs <| mm_lda 0 <| mm_ldi 4 <| mm_cst (.int 2) <| mm_ii (fun x y => x + y) <| mm_sld L xs <| mm_cav 75 3 6 C <| mm_lda 2 <| mm_lda 0 <| mm_ldi 4 <| mm_cst (.int 1) <| mm_ii (fun x y => x + y) <| mm_sld L xs <| mm_lda 0 <| mm_ldi 4 <| mm_cst (.int 2) <| mm_ii (fun x y => x + y) <| mm_sld L xs <| mm_cav 154 3 7 C <| mm_icm .eq 28 J <| mm_bad) := by
  have hxo := XX_o
  have hxe := XX_e0
  have hfr7 : d + 7 + 1 ≤ room_1.frames := Nat.le_trans (by omega) hfr
  have hlo7 : 256 * (d + 7) + 256 ≤ room_1.locals := Nat.le_trans (by omega) hlo
  refine so_aload_n (pc := 889) (i := 1) X (by decide +kernel) ?_
  refine so_aload_n (pc := 890) (i := 0) X (by decide +kernel) ?_
  refine so_iload (pc := 891) (i := 4) X (by decide +kernel) ?_
  refine so_iconst (pc := 893) (n := 1) (v := 1) X (by decide +kernel) (by decide) ?_
  refine so_iadd (pc := 894) X (by decide +kernel) ?_
  refine so_sld (pc := 895) X hXs hbl hbA had0 (by decide +kernel) ?_
  refine so_aload_n (pc := 896) (i := 0) X (by decide +kernel) ?_
  refine so_iload (pc := 897) (i := 4) X (by decide +kernel) ?_
  refine so_iconst (pc := 899) (n := 2) (v := 2) X (by decide +kernel) (by decide) ?_
  refine so_iadd (pc := 900) X (by decide +kernel) ?_
  refine so_sld (pc := 901) X hXs hbl hbA had0 (by decide +kernel) ?_
  refine so_cav (pc := 902) (y := 75) (na := 3) (index := 110) (maxL := 3) (nm := yX6_rows) (bytes := cX6_rows) (ret := (some .int)) (ci := 6) (N := 14) (T := TX6) X hxo (fun _ _ _ _ h => h.1) hC lw_good hfr hlo rfl (by decide) tw_768 tw_769 tw_259 rfl (by decide) tw_770 tw_771 (by decide +kernel) (by decide +kernel) ?_
  refine so_aload_n (pc := 905) (i := 2) X (by decide +kernel) ?_
  refine so_aload_n (pc := 906) (i := 0) X (by decide +kernel) ?_
  refine so_iload (pc := 907) (i := 4) X (by decide +kernel) ?_
  refine so_iconst (pc := 909) (n := 1) (v := 1) X (by decide +kernel) (by decide) ?_
  refine so_iadd (pc := 910) X (by decide +kernel) ?_
  refine so_sld (pc := 911) X hXs hbl hbA had0 (by decide +kernel) ?_
  refine so_aload_n (pc := 912) (i := 0) X (by decide +kernel) ?_
  refine so_iload (pc := 913) (i := 4) X (by decide +kernel) ?_
  refine so_iconst (pc := 915) (n := 2) (v := 2) X (by decide +kernel) (by decide) ?_
  refine so_iadd (pc := 916) X (by decide +kernel) ?_
  refine so_sld (pc := 917) X hXs hbl hbA had0 (by decide +kernel) ?_
  refine so_cav (pc := 918) (y := 154) (na := 3) (index := 113) (maxL := 3) (nm := yX7_rows) (bytes := cX7_rows) (ret := (some .int)) (ci := 7) (N := 32) (T := TX7) X hxo (fun _ _ _ _ h => h.1) hC lw_good hfr hlo rfl (by decide) tw_772 tw_773 tw_397 rfl (by decide) tw_774 tw_775 (by decide +kernel) (by decide +kernel) ?_
  refine so_icmp_eq (pc := 921) (off := 78) (tgt := 999) X (by decide +kernel) (by decide) (hJ 28) ?_
  exact so_bad
set_option maxHeartbeats 4000000 in
set_option maxRecDepth 100000 in
theorem bL_25 {l : Launch} (hlt : l.stackTraces = false) {D : va_G} {d : Nat} {C : mm_C} (hC : mm_CS l D pcl lw_T XX px_tab (d + 8) C) (hC5 : mm_CS l D pcl lw_T XX px_tab (d + 5) (Ev (d + 5))) (hfr : d + 8 + 1 ≤ room_1.frames) (hlo : 256 * (d + 8) + 256 ≤ room_1.locals) {p : Program} {e : Env} {s : State} {m : MethodId} {b L : Nat} {xs : Nat → Int32} {below : List Frame} {meth : Method} {c : Code} {A : Nat → Prop} {ad0 : Nat → Nat} {cA0 : Nat → ClassId} {J : mm_J} (X : mm_cx p room_1 s m #[Value.ref b] c code RL lw_T A D pcl 7) (hAs : ∀ q, A q → s.heap.size ≤ q) (hr : meth.sig.returnType = ret) (hlk : meth.locks = false) (hXs : va_X b L xs s s.heap) (hbl : b < s.heap.size) (hbA : ¬ A b) (had0 : ad0 (mm_ext + 300) = b) (hJ : ∀ t, mm_SK p l e room_1 s m #[Value.ref b] below meth c (lw_Z below #[Value.ref b] s) D pcl A 7 (mm_EX XX A s ad0 cA0 0) (ppL t) (J t)) : mm_SK p l e room_1 s m #[Value.ref b] below meth c (lw_Z below #[Value.ref b] s) D pcl A 7 (mm_EX XX A s ad0 cA0 0) 926 (mm_lda 1 <| mm_lda 0 <| mm_ldi 4 <| mm_cst (.int 1) <| mm_ii (fun x y => x + y) <| mm_sld L xs <| mm_lda 0 <| mm_ldi 4 <| mm_cst (.int 2) <| mm_ii (fun x y => x + y) <| mm_sld L xs <| mm_cav 76 3 6 C <| mm_lda 2 <| mm_lda 0 <| mm_ldi 4 <| mm_cst (.int 1) <| mm_ii (fun x y => x + y) <| mm_sld L xs <| mm_lda 0 <| mm_ldi 4 <| mm_cst (.int 2) <| mm_ii (fun x y => x + y) <| mm_sld L xs <| mm_cav 155 3 7 C <| mm_icm .eq 28 J <| mm_bad) := by
  have hxo := XX_o
  have hxe := XX_e0
  have hfr7 : d + 7 + 1 ≤ room_1.frames := Nat.le_trans (by omega) hfr
  have hlo7 : 256 * (d + 7) + 256 ≤ room_1.locals := Nat.le_trans (by omega) hlo
  refine so_aload_n (pc := 926) (i := 1) X (by decide +kernel) ?_
  refine so_aload_n (pc := 927) (i := 0) X (by decide +kernel) ?_
  refine so_iload (pc := 928) (i := 4) X (by decide +kernel) ?_
  refine so_iconst (pc := 930) (n := 1) (v := 1) X (by decide +kernel) (by decide) ?_
  refine so_iadd (pc := 931) X (by decide +kernel) ?_
  refine so_sld (pc := 932) X hXs hbl hbA had0 (by decide +kernel) ?_
  refine so_aload_n (pc := 933) (i := 0) X (by decide +kernel) ?_
  refine so_iload (pc := 934) (i := 4) X (by decide +kernel) ?_
  refine so_iconst (pc := 936) (n := 2) (v := 2) X (by decide +kernel) (by decide) ?_
  refine so_iadd (pc := 937) X (by decide +kernel) ?_
  refine so_sld (pc := 938) X hXs hbl hbA had0 (by decide +kernel) ?_
  refine so_cav (pc := 939) (y := 76) (na := 3) (index := 114) (maxL := 3) (nm := yX6_audit) (bytes := cX6_audit) (ret := (some .int)) (ci := 6) (N := 14) (T := TX6) X hxo (fun _ _ _ _ h => h.1) hC lw_good hfr hlo rfl (by decide) tw_776 tw_777 tw_259 rfl (by decide) tw_778 tw_779 (by decide +kernel) (by decide +kernel) ?_
  refine so_aload_n (pc := 942) (i := 2) X (by decide +kernel) ?_
  refine so_aload_n (pc := 943) (i := 0) X (by decide +kernel) ?_
  refine so_iload (pc := 944) (i := 4) X (by decide +kernel) ?_
  refine so_iconst (pc := 946) (n := 1) (v := 1) X (by decide +kernel) (by decide) ?_
  refine so_iadd (pc := 947) X (by decide +kernel) ?_
  refine so_sld (pc := 948) X hXs hbl hbA had0 (by decide +kernel) ?_
  refine so_aload_n (pc := 949) (i := 0) X (by decide +kernel) ?_
  refine so_iload (pc := 950) (i := 4) X (by decide +kernel) ?_
  refine so_iconst (pc := 952) (n := 2) (v := 2) X (by decide +kernel) (by decide) ?_
  refine so_iadd (pc := 953) X (by decide +kernel) ?_
  refine so_sld (pc := 954) X hXs hbl hbA had0 (by decide +kernel) ?_
  refine so_cav (pc := 955) (y := 155) (na := 3) (index := 117) (maxL := 3) (nm := yX7_audit) (bytes := cX7_audit) (ret := (some .int)) (ci := 7) (N := 32) (T := TX7) X hxo (fun _ _ _ _ h => h.1) hC lw_good hfr hlo rfl (by decide) tw_780 tw_781 tw_397 rfl (by decide) tw_782 tw_783 (by decide +kernel) (by decide +kernel) ?_
  refine so_icmp_eq (pc := 958) (off := 41) (tgt := 999) X (by decide +kernel) (by decide) (hJ 28) ?_
  exact so_bad
set_option maxHeartbeats 4000000 in
set_option maxRecDepth 100000 in
theorem bL_26 {l : Launch} (hlt : l.stackTraces = false) {D : va_G} {d : Nat} {C : mm_C} (hC : mm_CS l D pcl lw_T XX px_tab (d + 8) C) (hC5 : mm_CS l D pcl lw_T XX px_tab (d + 5) (Ev (d + 5))) (hfr : d + 8 + 1 ≤ room_1.frames) (hlo : 256 * (d + 8) + 256 ≤ room_1.locals) {p : Program} {e : Env} {s : State} {m : MethodId} {b L : Nat} {xs : Nat → Int32} {below : List Frame} {meth : Method} {c : Code} {A : Nat → Prop} {ad0 : Nat → Nat} {cA0 : Nat → ClassId} {J : mm_J} (X : mm_cx p room_1 s m #[Value.ref b] c code RL lw_T A D pcl 7) (hAs : ∀ q, A q → s.heap.size ≤ q) (hr : meth.sig.returnType = ret) (hlk : meth.locks = false) (hXs : va_X b L xs s s.heap) (hbl : b < s.heap.size) (hbA : ¬ A b) (had0 : ad0 (mm_ext + 300) = b) (hJ : ∀ t, mm_SK p l e room_1 s m #[Value.ref b] below meth c (lw_Z below #[Value.ref b] s) D pcl A 7 (mm_EX XX A s ad0 cA0 0) (ppL t) (J t)) : mm_SK p l e room_1 s m #[Value.ref b] below meth c (lw_Z below #[Value.ref b] s) D pcl A 7 (mm_EX XX A s ad0 cA0 0) 963 (mm_lda 1 <| mm_lda 0 <| mm_ldi 4 <| mm_cst (.int 1) <| mm_ii (fun x y => x + y) <| mm_sld L xs <| mm_cav 77 2 6 C <| mm_lda 2 <| mm_lda 0 <| mm_ldi 4 <| mm_cst (.int 1) <| mm_ii (fun x y => x + y) <| mm_sld L xs <| mm_cav 156 2 7 C <| mm_icm .eq 28 J <| mm_bad) := by
  have hxo := XX_o
  have hxe := XX_e0
  have hfr7 : d + 7 + 1 ≤ room_1.frames := Nat.le_trans (by omega) hfr
  have hlo7 : 256 * (d + 7) + 256 ≤ room_1.locals := Nat.le_trans (by omega) hlo
  refine so_aload_n (pc := 963) (i := 1) X (by decide +kernel) ?_
  refine so_aload_n (pc := 964) (i := 0) X (by decide +kernel) ?_
  refine so_iload (pc := 965) (i := 4) X (by decide +kernel) ?_
  refine so_iconst (pc := 967) (n := 1) (v := 1) X (by decide +kernel) (by decide) ?_
  refine so_iadd (pc := 968) X (by decide +kernel) ?_
  refine so_sld (pc := 969) X hXs hbl hbA had0 (by decide +kernel) ?_
  refine so_cav (pc := 970) (y := 77) (na := 2) (index := 118) (maxL := 2) (nm := yX6_told) (bytes := cX6_told) (ret := (some .int)) (ci := 6) (N := 14) (T := TX6) X hxo (fun _ _ _ _ h => h.1) hC lw_good hfr hlo rfl (by decide) tw_784 tw_785 tw_259 rfl (by decide) tw_786 tw_787 (by decide +kernel) (by decide +kernel) ?_
  refine so_aload_n (pc := 973) (i := 2) X (by decide +kernel) ?_
  refine so_aload_n (pc := 974) (i := 0) X (by decide +kernel) ?_
  refine so_iload (pc := 975) (i := 4) X (by decide +kernel) ?_
  refine so_iconst (pc := 977) (n := 1) (v := 1) X (by decide +kernel) (by decide) ?_
  refine so_iadd (pc := 978) X (by decide +kernel) ?_
  refine so_sld (pc := 979) X hXs hbl hbA had0 (by decide +kernel) ?_
  refine so_cav (pc := 980) (y := 156) (na := 2) (index := 121) (maxL := 2) (nm := yX7_told) (bytes := cX7_told) (ret := (some .int)) (ci := 7) (N := 32) (T := TX7) X hxo (fun _ _ _ _ h => h.1) hC lw_good hfr hlo rfl (by decide) tw_788 tw_789 tw_397 rfl (by decide) tw_790 tw_791 (by decide +kernel) (by decide +kernel) ?_
  refine so_icmp_eq (pc := 983) (off := 16) (tgt := 999) X (by decide +kernel) (by decide) (hJ 28) ?_
  exact so_bad
set_option maxHeartbeats 4000000 in
set_option maxRecDepth 100000 in
theorem bL_27 {l : Launch} (hlt : l.stackTraces = false) {D : va_G} {d : Nat} {C : mm_C} (hC : mm_CS l D pcl lw_T XX px_tab (d + 8) C) (hC5 : mm_CS l D pcl lw_T XX px_tab (d + 5) (Ev (d + 5))) (hfr : d + 8 + 1 ≤ room_1.frames) (hlo : 256 * (d + 8) + 256 ≤ room_1.locals) {p : Program} {e : Env} {s : State} {m : MethodId} {b L : Nat} {xs : Nat → Int32} {below : List Frame} {meth : Method} {c : Code} {A : Nat → Prop} {ad0 : Nat → Nat} {cA0 : Nat → ClassId} {J : mm_J} (X : mm_cx p room_1 s m #[Value.ref b] c code RL lw_T A D pcl 7) (hAs : ∀ q, A q → s.heap.size ≤ q) (hr : meth.sig.returnType = ret) (hlk : meth.locks = false) (hXs : va_X b L xs s s.heap) (hbl : b < s.heap.size) (hbA : ¬ A b) (had0 : ad0 (mm_ext + 300) = b) (hJ : ∀ t, mm_SK p l e room_1 s m #[Value.ref b] below meth c (lw_Z below #[Value.ref b] s) D pcl A 7 (mm_EX XX A s ad0 cA0 0) (ppL t) (J t)) : mm_SK p l e room_1 s m #[Value.ref b] below meth c (lw_Z below #[Value.ref b] s) D pcl A 7 (mm_EX XX A s ad0 cA0 0) 988 (mm_lda 1 <| mm_cav 78 1 6 C <| mm_lda 2 <| mm_cav 157 1 7 C <| mm_go 28 J) := by
  have hxo := XX_o
  have hxe := XX_e0
  have hfr7 : d + 7 + 1 ≤ room_1.frames := Nat.le_trans (by omega) hfr
  have hlo7 : 256 * (d + 7) + 256 ≤ room_1.locals := Nat.le_trans (by omega) hlo
  refine so_aload_n (pc := 988) (i := 1) X (by decide +kernel) ?_
  refine so_cav (pc := 989) (y := 78) (na := 1) (index := 122) (maxL := 1) (nm := yX6_clear) (bytes := cX6_clear) (ret := none) (ci := 6) (N := 14) (T := TX6) X hxo (fun _ _ _ _ h => h.1) hC lw_good hfr hlo rfl (by decide) tw_792 tw_793 tw_259 rfl (by decide) tw_794 tw_795 (by decide +kernel) (by decide +kernel) ?_
  refine so_aload_n (pc := 992) (i := 2) X (by decide +kernel) ?_
  refine so_cav (pc := 993) (y := 157) (na := 1) (index := 125) (maxL := 1) (nm := yX7_clear) (bytes := cX7_clear) (ret := none) (ci := 7) (N := 32) (T := TX7) X hxo (fun _ _ _ _ h => h.1) hC lw_good hfr hlo rfl (by decide) tw_796 tw_797 tw_397 rfl (by decide) tw_798 tw_799 (by decide +kernel) (by decide +kernel) ?_
  exact so_goto (pc := 996) (off := 3) (tgt := 999) X (by decide +kernel) (by decide) (hJ 28)
set_option maxHeartbeats 4000000 in
set_option maxRecDepth 100000 in
theorem bL_28 {l : Launch} (hlt : l.stackTraces = false) {D : va_G} {d : Nat} {C : mm_C} (hC : mm_CS l D pcl lw_T XX px_tab (d + 8) C) (hC5 : mm_CS l D pcl lw_T XX px_tab (d + 5) (Ev (d + 5))) (hfr : d + 8 + 1 ≤ room_1.frames) (hlo : 256 * (d + 8) + 256 ≤ room_1.locals) {p : Program} {e : Env} {s : State} {m : MethodId} {b L : Nat} {xs : Nat → Int32} {below : List Frame} {meth : Method} {c : Code} {A : Nat → Prop} {ad0 : Nat → Nat} {cA0 : Nat → ClassId} {J : mm_J} (X : mm_cx p room_1 s m #[Value.ref b] c code RL lw_T A D pcl 7) (hAs : ∀ q, A q → s.heap.size ≤ q) (hr : meth.sig.returnType = ret) (hlk : meth.locks = false) (hXs : va_X b L xs s s.heap) (hbl : b < s.heap.size) (hbA : ¬ A b) (had0 : ad0 (mm_ext + 300) = b) (hJ : ∀ t, mm_SK p l e room_1 s m #[Value.ref b] below meth c (lw_Z below #[Value.ref b] s) D pcl A 7 (mm_EX XX A s ad0 cA0 0) (ppL t) (J t)) : mm_SK p l e room_1 s m #[Value.ref b] below meth c (lw_Z below #[Value.ref b] s) D pcl A 7 (mm_EX XX A s ad0 cA0 0) 999 (mm_inc 4 (.int 5) <| mm_go 1 J) := by
  have hxo := XX_o
  have hxe := XX_e0
  have hfr7 : d + 7 + 1 ≤ room_1.frames := Nat.le_trans (by omega) hfr
  have hlo7 : 256 * (d + 7) + 256 ≤ room_1.locals := Nat.le_trans (by omega) hlo
  refine so_iinc (pc := 999) (i := 4) (n := 5) (y := 5) X (by decide +kernel) (by decide) (by decide) ?_
  exact so_goto (pc := 1002) (off := (-979)) (tgt := 23) X (by decide +kernel) (by decide) (hJ 1)
set_option maxHeartbeats 4000000 in
set_option maxRecDepth 100000 in
theorem bL_29 {l : Launch} (hlt : l.stackTraces = false) {D : va_G} {d : Nat} {C : mm_C} (hC : mm_CS l D pcl lw_T XX px_tab (d + 8) C) (hC5 : mm_CS l D pcl lw_T XX px_tab (d + 5) (Ev (d + 5))) (hfr : d + 8 + 1 ≤ room_1.frames) (hlo : 256 * (d + 8) + 256 ≤ room_1.locals) {p : Program} {e : Env} {s : State} {m : MethodId} {b L : Nat} {xs : Nat → Int32} {below : List Frame} {meth : Method} {c : Code} {A : Nat → Prop} {ad0 : Nat → Nat} {cA0 : Nat → ClassId} {J : mm_J} (X : mm_cx p room_1 s m #[Value.ref b] c code RL lw_T A D pcl 7) (hAs : ∀ q, A q → s.heap.size ≤ q) (hr : meth.sig.returnType = ret) (hlk : meth.locks = false) (hXs : va_X b L xs s s.heap) (hbl : b < s.heap.size) (hbA : ¬ A b) (had0 : ad0 (mm_ext + 300) = b) (hJ : ∀ t, mm_SK p l e room_1 s m #[Value.ref b] below meth c (lw_Z below #[Value.ref b] s) D pcl A 7 (mm_EX XX A s ad0 cA0 0) (ppL t) (J t)) : mm_SK p l e room_1 s m #[Value.ref b] below meth c (lw_Z below #[Value.ref b] s) D pcl A 7 (mm_EX XX A s ad0 cA0 0) 1005 (mm_cst (.int 1) <| mm_lwr) := by
  have hxo := XX_o
  have hxe := XX_e0
  have hfr7 : d + 7 + 1 ≤ room_1.frames := Nat.le_trans (by omega) hfr
  have hlo7 : 256 * (d + 7) + 256 ≤ room_1.locals := Nat.le_trans (by omega) hlo
  refine so_iconst (pc := 1005) (n := 1) (v := 1) X (by decide +kernel) (by decide) ?_
  exact so_lwr (pc := 1006) X hAs hr hlk (by decide +kernel)
theorem bL_all {l : Launch} (hlt : l.stackTraces = false) {D : va_G} {d : Nat} {C : mm_C} (hC : mm_CS l D pcl lw_T XX px_tab (d + 8) C) (hC5 : mm_CS l D pcl lw_T XX px_tab (d + 5) (Ev (d + 5))) (hfr : d + 8 + 1 ≤ room_1.frames) (hlo : 256 * (d + 8) + 256 ≤ room_1.locals) {p : Program} {e : Env} {s : State} {m : MethodId} {b L : Nat} {xs : Nat → Int32} {below : List Frame} {meth : Method} {c : Code} {A : Nat → Prop} {ad0 : Nat → Nat} {cA0 : Nat → ClassId} {J : mm_J} (X : mm_cx p room_1 s m #[Value.ref b] c code RL lw_T A D pcl 7) (hAs : ∀ q, A q → s.heap.size ≤ q) (hr : meth.sig.returnType = ret) (hlk : meth.locks = false) (hXs : va_X b L xs s s.heap) (hbl : b < s.heap.size) (hbA : ¬ A b) (had0 : ad0 (mm_ext + 300) = b) (hJ : ∀ t, mm_SK p l e room_1 s m #[Value.ref b] below meth c (lw_Z below #[Value.ref b] s) D pcl A 7 (mm_EX XX A s ad0 cA0 0) (ppL t) (J t)) : ∀ t, mm_SK p l e room_1 s m #[Value.ref b] below meth c (lw_Z below #[Value.ref b] s) D pcl A 7 (mm_EX XX A s ad0 cA0 0) (ppL t) (pbL L xs d J C t) := by
  intro t
  match t with
  | 0 => exact bL_0 hlt hC hC5 hfr hlo X hAs hr hlk hXs hbl hbA had0 hJ
  | 1 => exact bL_1 hlt hC hC5 hfr hlo X hAs hr hlk hXs hbl hbA had0 hJ
  | 2 => exact bL_2 hlt hC hC5 hfr hlo X hAs hr hlk hXs hbl hbA had0 hJ
  | 3 => exact bL_3 hlt hC hC5 hfr hlo X hAs hr hlk hXs hbl hbA had0 hJ
  | 4 => exact bL_4 hlt hC hC5 hfr hlo X hAs hr hlk hXs hbl hbA had0 hJ
  | 5 => exact bL_5 hlt hC hC5 hfr hlo X hAs hr hlk hXs hbl hbA had0 hJ
  | 6 => exact bL_6 hlt hC hC5 hfr hlo X hAs hr hlk hXs hbl hbA had0 hJ
  | 7 => exact bL_7 hlt hC hC5 hfr hlo X hAs hr hlk hXs hbl hbA had0 hJ
  | 8 => exact bL_8 hlt hC hC5 hfr hlo X hAs hr hlk hXs hbl hbA had0 hJ
  | 9 => exact bL_9 hlt hC hC5 hfr hlo X hAs hr hlk hXs hbl hbA had0 hJ
  | 10 => exact bL_10 hlt hC hC5 hfr hlo X hAs hr hlk hXs hbl hbA had0 hJ
  | 11 => exact bL_11 hlt hC hC5 hfr hlo X hAs hr hlk hXs hbl hbA had0 hJ
  | 12 => exact bL_12 hlt hC hC5 hfr hlo X hAs hr hlk hXs hbl hbA had0 hJ
  | 13 => exact bL_13 hlt hC hC5 hfr hlo X hAs hr hlk hXs hbl hbA had0 hJ
  | 14 => exact bL_14 hlt hC hC5 hfr hlo X hAs hr hlk hXs hbl hbA had0 hJ
  | 15 => exact bL_15 hlt hC hC5 hfr hlo X hAs hr hlk hXs hbl hbA had0 hJ
  | 16 => exact bL_16 hlt hC hC5 hfr hlo X hAs hr hlk hXs hbl hbA had0 hJ
  | 17 => exact bL_17 hlt hC hC5 hfr hlo X hAs hr hlk hXs hbl hbA had0 hJ
  | 18 => exact bL_18 hlt hC hC5 hfr hlo X hAs hr hlk hXs hbl hbA had0 hJ
  | 19 => exact bL_19 hlt hC hC5 hfr hlo X hAs hr hlk hXs hbl hbA had0 hJ
  | 20 => exact bL_20 hlt hC hC5 hfr hlo X hAs hr hlk hXs hbl hbA had0 hJ
  | 21 => exact bL_21 hlt hC hC5 hfr hlo X hAs hr hlk hXs hbl hbA had0 hJ
  | 22 => exact bL_22 hlt hC hC5 hfr hlo X hAs hr hlk hXs hbl hbA had0 hJ
  | 23 => exact bL_23 hlt hC hC5 hfr hlo X hAs hr hlk hXs hbl hbA had0 hJ
  | 24 => exact bL_24 hlt hC hC5 hfr hlo X hAs hr hlk hXs hbl hbA had0 hJ
  | 25 => exact bL_25 hlt hC hC5 hfr hlo X hAs hr hlk hXs hbl hbA had0 hJ
  | 26 => exact bL_26 hlt hC hC5 hfr hlo X hAs hr hlk hXs hbl hbA had0 hJ
  | 27 => exact bL_27 hlt hC hC5 hfr hlo X hAs hr hlk hXs hbl hbA had0 hJ
  | 28 => exact bL_28 hlt hC hC5 hfr hlo X hAs hr hlk hXs hbl hbA had0 hJ
  | 29 => exact bL_29 hlt hC hC5 hfr hlo X hAs hr hlk hXs hbl hbA had0 hJ
  | n + 30 => exact fun _ _ _ _ h => h.elim
