/-! the law: its instructions, 13 -/
def tLw13 : List (Nat × Instr × Nat) := [(810, .invokevirtual 121, 3), (813, .aload_n 2, 1), (814, .aload_n 0, 1), (815, .iload_n 3, 1), (816, .iconst 1, 1), (817, .iadd, 1), (818, .iaload, 1), (819, .invokevirtual 124, 3), (822, .if_icmp .eq 5, 3), (825, .iconst 0, 1), (826, .ireturn, 1), (827, .iinc 3 4, 3), (830, .goto (-812), 3), (833, .iconst 1, 1), (834, .ireturn, 1)]
set_option maxRecDepth 100000 in
theorem DLw13 : xdt code tLw13 = true := by decide +kernel
