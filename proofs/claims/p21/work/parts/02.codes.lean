def lwB (j : Nat) : List Jvm.Cond := if j = 0 then k2_sels lw_privs else if j = 1 then tables_1_1 else if j = 2 then tables_1_2 else if j = 3 then tables_1_3 else if j = 4 then tables_1_4 else if j = 5 then tables_1_5 else if j = 6 then tables_1_6 else if j = 7 then tables_1_7 else tables_1_8
abbrev En : Type := Instr × Nat × Nat × Nat × Int32 × Int64 × List (Int32 × Nat)
abbrev Cd : Type := List (Option En)
abbrev e1 (i : Instr) : Option En := some (i, 1, 0, 0, 0, 0, [])
abbrev e2 (i : Instr) : Option En := some (i, 2, 0, 0, 0, 0, [])
abbrev e3 (i : Instr) : Option En := some (i, 3, 0, 0, 0, 0, [])
abbrev eA (i : Instr) (n a : Nat) : Option En := some (i, n, a, 0, 0, 0, [])
abbrev eV (i : Instr) (n : Nat) (v : Int32) : Option En := some (i, n, 0, 0, v, 0, [])
abbrev eS (i : Instr) (a b k : Nat) : Option En := some (i, 3, a, b, 0, 0, [(0, k)])
abbrev eG (i : Instr) (a b : Nat) (v : Int32) (k : Nat) : Option En := some (i, 3, a, b, v, 0, [(0, k)])
set_option maxRecDepth 100000 in
def cd0 : Cd := [e1 (.iconst 0), e1 (.istore_n 2), e1 (.iload_n 2), e1 (.aload_n 1), eG (.getfield 15) 7 1 1 10, none, none, eS (.invokevirtual 21) 91 0 149, none, none, eA (.if_icmp .ge 15) 3 25, none, none, e1 (.aload_n 0), 
  e1 (.aload_n 1), e1 (.iload_n 2), eS (.invokevirtual 27) 1 2 150, none, none, eV (.iinc 2 1) 3 1, none, none, eA (.goto (-20)) 3 2, none, none, e1 (.iconst 0), e1 (.istore_n 2), e1 (.iload_n 2), e1 (.aload_n 1), 
  eS (.getfield 31) 7 0 6, none, none, eS (.invokevirtual 21) 91 0 149, none, none, eA (.if_icmp .ge 39) 3 74, none, none, e1 (.aload_n 0), e1 (.aload_n 1), e1 (.iload_n 2), eS (.invokevirtual 34) 3 2 158, none, none, 
  e1 (.aload_n 1), eS (.getfield 31) 7 0 6, none, none, e1 (.iload_n 2), eV (.iconst 4) 1 4, e1 (.iconst 0), e1 (.aload_n 1), eS (.getfield 31) 7 0 6, none, none, e1 (.iload_n 2), eV (.iconst 4) 1 4, 
  eS (.invokevirtual 37) 94 2 151, none, none, eV (.iconst 1) 1 1, e1 .isub, eS (.invokestatic 41) 1001 2 16, none, none, eS (.invokevirtual 46) 95 3 157, none, none, eV (.iinc 2 1) 3 1, none, none, eA (.goto (-44)) 3 27, 
  none, none, e1 (.iconst 0), e1 (.istore_n 2), e1 (.iload_n 2), e1 (.aload_n 1), eG (.getfield 15) 7 1 1 10, none, none, eS (.invokevirtual 21) 91 0 149, none, none, eA (.if_icmp .ge 39) 3 123, none, none, e1 (.aload_n 1), 
  e1 (.iload_n 2), eS (.invokevirtual 50) 62 1 152, none, none, eA (.ifCond .ne 25) 3 117, none, none, e1 (.aload_n 1), e1 (.iload_n 2), e1 (.aload_n 1), eG (.getfield 54) 7 5 5 25, none, none, 
  eS (.invokevirtual 58) 86 2 160, none, none, e1 (.aload_n 1), eG (.getfield 54) 7 5 5 25, none, none, eA (.if_icmp .gt 9) 3 117, none, none, e1 (.aload_n 0), e1 (.aload_n 1), e1 (.iload_n 2), 
  eS (.invokevirtual 61) 4 2 161, none, none, eV (.iinc 2 1) 3 1, none, none, eA (.goto (-44)) 3 76, none, none, e1 (.aload_n 1), e1 .dup, eG (.getfield 54) 7 5 5 25, none, none, eV (.iconst 1) 1 1, e1 .iadd, 
  eG (.putfield 54) 7 5 5 25, none, none, e1 .return_]
set_option maxRecDepth 100000 in
def cd1 : Cd := [e1 (.aload_n 1), eG (.getfield 15) 7 1 1 10, none, none, e1 (.iload_n 2), eV (.bipush 8) 2 8, none, eS (.invokevirtual 37) 94 2 151, none, none, e1 (.istore_n 3), e1 (.iload_n 3), 
  some (.ldc 64, 2, 0, 0, -1000000005, 0, [(0, 15)]), none, eA (.if_icmp .eq 28) 3 42, none, none, e1 (.aload_n 1), e1 (.iload_n 2), eS (.invokevirtual 50) 62 1 152, none, none, eA (.ifCond .ne 20) 3 42, none, none, 
  e1 (.aload_n 1), eG (.getfield 15) 7 1 1 10, none, none, e1 (.iload_n 2), eV (.bipush 9) 2 9, none, eS (.invokevirtual 37) 94 2 151, none, none, e1 (.aload_n 1), eG (.getfield 54) 7 5 5 25, none, none, 
  eA (.if_icmp .ne 4) 3 43, none, none, e1 .return_, e1 (.aload_n 1), eG (.getfield 15) 7 1 1 10, none, none, e1 (.iload_n 2), eV (.iconst 1) 1 1, eS (.invokevirtual 37) 94 2 151, none, none, e2 (.istore 4), none, 
  e1 (.aload_n 1), eS (.getfield 31) 7 0 6, none, none, e1 (.iload_n 3), eV (.iconst 4) 1 4, eS (.invokevirtual 37) 94 2 151, none, none, eA (.ifCond .le 24) 3 87, none, none, e1 (.aload_n 1), e1 (.iload_n 2), 
  eV (.bipush 10) 2 10, none, e1 (.aload_n 0), eS (.getfield 9) 0 0 34, none, none, e1 (.aload_n 1), eV (.iconst 1) 1 1, e2 (.iload 4), none, e1 (.iconst 0), e1 (.iconst 0), eS (.invokevirtual 65) 48 5 153, none, none, 
  eS (.invokevirtual 71) 84 3 154, none, none, e1 .return_, e1 (.aload_n 1), eS (.getfield 31) 7 0 6, none, none, e1 (.iload_n 3), eV (.iconst 3) 1 3, eS (.invokevirtual 37) 94 2 151, none, none, e2 (.iload 4), none, 
  e1 .iadd, e2 (.istore 5), none, e1 (.aload_n 1), eG (.getfield 15) 7 1 1 10, none, none, e1 (.iload_n 2), e1 (.iconst 0), eS (.invokevirtual 37) 94 2 151, none, none, e2 (.istore 6), none, e1 (.aload_n 1), 
  e1 (.iload_n 2), eV (.bipush 10) 2 10, none, e1 (.aload_n 0), eS (.getfield 9) 0 0 34, none, none, e1 (.aload_n 1), e1 (.iconst 0), e2 (.iload 5), none, e2 (.iload 4), none, e2 (.iload 6), none, 
  eS (.invokevirtual 65) 48 5 153, none, none, eS (.invokevirtual 71) 84 3 154, none, none, e1 (.aload_n 1), eS (.getfield 31) 7 0 6, none, none, e1 (.iload_n 3), eV (.bipush 6) 2 6, none, e2 (.iload 5), none, 
  eS (.invokevirtual 74) 97 3 155, none, none, e1 (.aload_n 1), eG (.getfield 15) 7 1 1 10, none, none, e1 (.iload_n 2), eV (.bipush 6) 2 6, none, eV (.iconst 1) 1 1, eS (.invokevirtual 74) 97 3 155, none, none, 
  e1 (.aload_n 0), e1 (.aload_n 1), e1 (.iload_n 2), eS (.invokevirtual 77) 2 2 156, none, none, e1 .return_]
set_option maxRecDepth 100000 in
def cd2 : Cd := [e1 (.aload_n 1), eG (.getfield 15) 7 1 1 10, none, none, e1 (.iload_n 2), eV (.bipush 7) 2 7, none, eS (.invokevirtual 37) 94 2 151, none, none, eV (.iconst 1) 1 1, e1 .iadd, e1 (.istore_n 3), e1 (.iload_n 3), 
  eV (.bipush 10) 2 10, none, eA (.if_icmp .ne 29) 3 45, none, none, e1 (.iconst 0), e1 (.istore_n 3), e1 (.aload_n 1), eG (.getfield 15) 7 1 1 10, none, none, e1 (.iload_n 2), eV (.iconst 1) 1 1, eV (.iconst 3) 1 3, 
  e1 (.aload_n 1), eG (.getfield 15) 7 1 1 10, none, none, e1 (.iload_n 2), eV (.iconst 1) 1 1, eS (.invokevirtual 37) 94 2 151, none, none, eV (.iconst 1) 1 1, e1 .iadd, eS (.invokestatic 80) 1002 2 15, none, none, 
  eS (.invokevirtual 46) 95 3 157, none, none, e1 (.aload_n 1), eG (.getfield 15) 7 1 1 10, none, none, e1 (.iload_n 2), eV (.bipush 7) 2 7, none, e1 (.iload_n 3), eS (.invokevirtual 46) 95 3 157, none, none, e1 .return_]
set_option maxRecDepth 100000 in
def cd3 : Cd := [e1 (.iconst 0), e1 (.istore_n 3), e1 (.iload_n 3), eV (.bipush 30) 2 30, none, eA (.if_icmp .ge 82) 3 87, none, none, e1 (.aload_n 1), e1 (.iload_n 2), some (.ldc 64, 2, 0, 0, -1000000005, 0, [(0, 15)]), none, 
  eS (.invokevirtual 83) 81 2 159, none, none, e2 (.istore 4), none, e2 (.iload 4), none, some (.ldc 64, 2, 0, 0, -1000000005, 0, [(0, 15)]), none, eA (.if_icmp .ne 4) 3 25, none, none, e1 .return_, e1 (.aload_n 1), 
  eG (.getfield 86) 7 2 2 17, none, none, e2 (.iload 4), none, eV (.iconst 2) 1 2, eS (.invokevirtual 37) 94 2 151, none, none, e2 (.istore 5), none, e1 (.aload_n 1), eS (.getfield 31) 7 0 6, none, none, e1 (.iload_n 2), 
  eV (.bipush 6) 2 6, none, eS (.invokevirtual 37) 94 2 151, none, none, e2 (.iload 5), none, eA (.if_icmp .ge 4) 3 53, none, none, e1 .return_, e1 (.aload_n 1), eG (.getfield 86) 7 2 2 17, none, none, e2 (.iload 4), none, 
  eV (.bipush 6) 2 6, none, e1 (.aload_n 1), eG (.getfield 54) 7 5 5 25, none, none, eS (.invokevirtual 46) 95 3 157, none, none, e1 (.aload_n 1), eS (.getfield 31) 7 0 6, none, none, e1 (.iload_n 2), eV (.bipush 6) 2 6, 
  none, e2 (.iload 5), none, e1 .ineg, eS (.invokevirtual 74) 97 3 155, none, none, eV (.iinc 3 1) 3 1, none, none, eA (.goto (-82)) 3 2, none, none, e1 .return_]
set_option maxRecDepth 100000 in
def cd4 : Cd := [e1 (.aload_n 1), e1 (.iload_n 2), eV (.iconst 4) 1 4, e1 (.aload_n 1), eG (.getfield 15) 7 1 1 10, none, none, e1 (.iload_n 2), eV (.bipush 10) 2 10, none, e1 (.iconst 0), eS (.invokevirtual 89) 96 3 162, none, none, 
  eS (.invokevirtual 71) 84 3 154, none, none, e1 (.aload_n 1), e1 (.iload_n 2), eV (.iconst 4) 1 4, e1 (.aload_n 1), eG (.getfield 15) 7 1 1 10, none, none, e1 (.iload_n 2), eV (.iconst 5) 1 5, e1 (.iconst 0), 
  eS (.invokevirtual 89) 96 3 162, none, none, eS (.invokevirtual 71) 84 3 154, none, none, e1 (.aload_n 1), e1 (.iload_n 2), eV (.iconst 2) 1 2, eS (.invokevirtual 93) 70 2 163, none, none, e1 (.aload_n 1), 
  eG (.getfield 15) 7 1 1 10, none, none, e1 (.iload_n 2), eV (.bipush 8) 2 8, none, some (.ldc 64, 2, 0, 0, -1000000005, 0, [(0, 15)]), none, eS (.invokevirtual 46) 95 3 157, none, none, e1 (.aload_n 1), 
  eG (.getfield 15) 7 1 1 10, none, none, e1 (.iload_n 2), eV (.bipush 11) 2 11, none, eV (.iconst 1) 1 1, eS (.invokevirtual 46) 95 3 157, none, none, e1 .return_]
set_option maxRecDepth 100000 in
def cd5 : Cd := [e1 (.aload_n 0), eG (.getfield 46) 1 11 11 51, none, none, e1 .ireturn]
set_option maxRecDepth 100000 in
def cd6 : Cd := [e1 (.aload_n 0), eG (.getfield 49) 1 12 12 52, none, none, e1 .ireturn]
set_option maxRecDepth 100000 in
def cd7 : Cd := [e1 (.iload_n 1), eA (.ifCond .lt 29) 3 30, none, none, e1 (.iload_n 1), e1 (.aload_n 0), eG (.getfield 42) 1 10 10 50, none, none, eA (.if_icmp .ge 21) 3 30, none, none, e1 (.iload_n 1), e1 (.aload_n 0), 
  eG (.getfield 30) 1 6 6 46, none, none, e1 .arraylength, eA (.if_icmp .ge 12) 3 30, none, none, e1 (.aload_n 0), eG (.getfield 30) 1 6 6 46, none, none, e1 (.iload_n 1), e1 .iaload, eA (.goto 5) 3 32, none, none, 
  some (.ldc 52, 2, 0, 0, -1000000005, 0, [(0, 9)]), none, e1 .ireturn]
set_option maxRecDepth 100000 in
def cd8 : Cd := [e1 (.aload_n 0), eV (.bipush 10) 2 10, none, e1 (.aload_n 1), eG (.getfield 53) 7 1 1 12, none, none, eS (.invokevirtual 58) 91 0 40, none, none, eS (.invokestatic 64) 1002 2 1, none, none, eG (.putfield 42) 1 10 10 50, 
  none, none, e1 (.iconst 0), e1 (.istore_n 2), e1 (.iload_n 2), eV (.iconst 3) 1 3, eA (.if_icmp .ge 31) 3 51, none, none, e1 (.aload_n 0), eG (.getfield 21) 1 3 3 43, none, none, e1 (.iload_n 2), e1 (.aload_n 1), 
  eS (.getfield 70) 7 0 8, none, none, e1 (.iload_n 2), e1 (.iconst 0), eS (.invokevirtual 73) 94 2 41, none, none, e1 .iastore, e1 (.aload_n 0), eG (.getfield 24) 1 4 4 44, none, none, e1 (.iload_n 2), e1 (.iconst 0), 
  e1 .iastore, eV (.iinc 2 1) 3 1, none, none, eA (.goto (-30)) 3 18, none, none, e1 (.iconst 0), e1 (.istore_n 2), e1 (.iload_n 2), e1 (.aload_n 0), eG (.getfield 42) 1 10 10 50, none, none, eA (.if_icmp .ge 52) 3 110, 
  none, none, e1 (.aload_n 0), eS (.getfield 9) 1 0 40, none, none, e1 (.iload_n 2), e1 (.aload_n 1), e1 (.iload_n 2), eS (.invokestatic 76) 9 2 42, none, none, e1 .iastore, e1 (.aload_n 0), eG (.getfield 15) 1 1 1 41, 
  none, none, e1 (.iload_n 2), e1 (.aload_n 1), eG (.getfield 53) 7 1 1 12, none, none, e1 (.iload_n 2), eV (.bipush 12) 2 12, none, eS (.invokevirtual 73) 94 2 41, none, none, e1 .iastore, e1 (.aload_n 0), 
  eG (.getfield 18) 1 2 2 42, none, none, e1 (.iload_n 2), e1 (.aload_n 1), eG (.getfield 53) 7 1 1 12, none, none, e1 (.iload_n 2), eV (.bipush 6) 2 6, none, eS (.invokevirtual 73) 94 2 41, none, none, e1 .iastore, 
  eV (.iinc 2 1) 3 1, none, none, eA (.goto (-54)) 3 53, none, none, e1 (.aload_n 0), eS (.invokevirtual 80) 10 0 44, none, none, e1 (.aload_n 0), eV (.iconst (-1)) 1 (-1), eG (.putfield 46) 1 11 11 51, none, none, 
  e1 (.aload_n 0), e1 (.iconst 0), eG (.putfield 49) 1 12 12 52, none, none, e1 (.aload_n 0), e1 (.iconst 0), e1 (.iconst 0), e1 (.iconst 0), eS (.invokevirtual 83) 12 3 46, none, none, e1 .return_]
set_option maxRecDepth 100000 in
def cd9 : Cd := [e1 (.iconst 0), e1 (.istore_n 2), e1 (.iconst 0), e1 (.istore_n 3), e1 (.iload_n 3), e1 (.aload_n 0), eS (.getfield 70) 7 0 8, none, none, eS (.invokevirtual 58) 91 0 40, none, none, eA (.if_icmp .ge 28) 3 40, none, none, 
  e1 (.iload_n 2), e1 (.aload_n 0), e1 (.iload_n 1), e1 (.iload_n 3), eS (.invokevirtual 87) 66 2 43, none, none, eA (.ifCond .eq 9) 3 31, none, none, eV (.iconst 1) 1 1, e1 (.iload_n 3), e1 .ishl, eA (.goto 4) 3 32, none, 
  none, e1 (.iconst 0), e1 .ior, e1 (.istore_n 2), eV (.iinc 3 1) 3 1, none, none, eA (.goto (-33)) 3 4, none, none, e1 (.iload_n 2), e1 .ireturn]
set_option maxRecDepth 100000 in
def cd10 : Cd := [e1 (.iconst 0), e1 (.istore_n 1), e1 (.aload_n 0), eG (.getfield 33) 1 7 7 47, none, none, e1 (.aload_n 0), eG (.getfield 42) 1 10 10 50, none, none, e1 (.iconst 0), e1 .iastore, e1 (.aload_n 0), 
  eG (.getfield 36) 1 8 8 48, none, none, e1 (.aload_n 0), eG (.getfield 42) 1 10 10 50, none, none, eV (.bipush 11) 2 11, none, e1 .imul, e1 (.iconst 0), e1 .iastore, e1 (.aload_n 0), eG (.getfield 42) 1 10 10 50, none, 
  none, eV (.iconst 1) 1 1, e1 .isub, e1 (.istore_n 2), e1 (.iload_n 2), eA (.ifCond .lt 89) 3 122, none, none, e1 (.aload_n 0), eS (.getfield 9) 1 0 40, none, none, e1 (.iload_n 2), e1 .iaload, eA (.ifCond .eq 17) 3 59, 
  none, none, e1 (.aload_n 0), e1 (.aload_n 0), eG (.getfield 18) 1 2 2 42, none, none, e1 (.iload_n 2), e1 .iaload, e1 (.iload_n 1), eS (.invokevirtual 91) 11 2 45, none, none, eV (.iinc 1 1) 3 1, none, none, 
  e1 (.aload_n 0), eG (.getfield 33) 1 7 7 47, none, none, e1 (.iload_n 2), e1 (.iload_n 1), e1 .iastore, e1 (.iconst 0), e1 (.istore_n 3), e1 (.iconst 0), e2 (.istore 4), none, e2 (.iload 4), none, e1 (.iload_n 1), 
  eA (.if_icmp .gt 42) 3 116, none, none, e2 (.iload 4), none, e1 (.aload_n 0), eG (.getfield 39) 1 9 9 49, none, none, e1 .arraylength, eA (.if_icmp .ge 32) 3 116, none, none, e1 (.aload_n 0), eG (.getfield 36) 1 8 8 48, 
  none, none, e1 (.iload_n 2), eV (.bipush 11) 2 11, none, e1 .imul, e2 (.iload 4), none, e1 .iadd, e1 (.iload_n 3), e1 .iastore, e1 (.iload_n 3), e1 (.aload_n 0), eG (.getfield 39) 1 9 9 49, none, none, e2 (.iload 4), 
  none, e1 .iaload, e1 .iadd, e1 (.istore_n 3), eV (.iinc 4 1) 3 1, none, none, eA (.goto (-42)) 3 71, none, none, eV (.iinc 2 (-1)) 3 (-1), none, none, eA (.goto (-87)) 3 32, none, none, e1 .return_]
set_option maxRecDepth 100000 in
def cd11 : Cd := [e1 (.iload_n 2), eA (.ifCond .lt 12) 3 13, none, none, e1 (.iload_n 2), e1 (.aload_n 0), eG (.getfield 39) 1 9 9 49, none, none, e1 .arraylength, eA (.if_icmp .lt 4) 3 14, none, none, e1 .return_, e1 (.iload_n 2), 
  e1 (.istore_n 3), e1 (.iload_n 3), eA (.ifCond .le 35) 3 52, none, none, e1 (.aload_n 0), eG (.getfield 39) 1 9 9 49, none, none, e1 (.iload_n 3), eV (.iconst 1) 1 1, e1 .isub, e1 .iaload, e1 (.iload_n 1), 
  eA (.if_icmp .le 23) 3 52, none, none, e1 (.aload_n 0), eG (.getfield 39) 1 9 9 49, none, none, e1 (.iload_n 3), e1 (.aload_n 0), eG (.getfield 39) 1 9 9 49, none, none, e1 (.iload_n 3), eV (.iconst 1) 1 1, e1 .isub, 
  e1 .iaload, e1 .iastore, eV (.iinc 3 (-1)) 3 (-1), none, none, eA (.goto (-33)) 3 16, none, none, e1 (.aload_n 0), eG (.getfield 39) 1 9 9 49, none, none, e1 (.iload_n 3), e1 (.iload_n 1), e1 .iastore, e1 .return_]
set_option maxRecDepth 100000 in
def cd12 : Cd := [e1 (.aload_n 0), e1 (.iload_n 1), e1 (.iload_n 2), e1 (.iload_n 3), eS (.invokevirtual 95) 16 3 47, none, none, eA (.ifCond .ne 4) 3 11, none, none, e1 .return_, e1 (.iload_n 1), eA (.ifCond .lt 11) 3 23, none, none, 
  e1 (.iload_n 1), e1 (.aload_n 0), eG (.getfield 42) 1 10 10 50, none, none, eA (.if_icmp .lt 32) 3 52, none, none, e1 (.aload_n 0), e1 (.iload_n 2), eG (.putfield 46) 1 11 11 51, none, none, e1 (.aload_n 0), 
  e1 (.iload_n 3), eG (.putfield 49) 1 12 12 52, none, none, e1 (.aload_n 0), eG (.getfield 27) 1 5 5 45, none, none, e1 (.iconst 0), e1 (.aload_n 0), eG (.getfield 30) 1 6 6 46, none, none, e1 (.iconst 0), e1 (.aload_n 0), 
  eG (.getfield 27) 1 5 5 45, none, none, e1 .arraylength, eS (.invokestatic 99) 1003 5 2, none, none, e1 .return_, e1 (.iconst 0), e2 (.istore 4), none, e2 (.iload 4), none, eV (.iconst 3) 1 3, eA (.if_icmp .ge 18) 3 76, 
  none, none, e1 (.aload_n 0), e1 (.iload_n 1), e2 (.iload 4), none, e1 (.iload_n 2), e1 (.iload_n 3), eS (.invokevirtual 105) 13 4 48, none, none, eV (.iinc 4 1) 3 1, none, none, eA (.goto (-18)) 3 55, none, none, 
  e1 (.aload_n 0), e1 (.iload_n 1), e1 (.iload_n 2), e1 (.iload_n 3), eS (.invokevirtual 109) 14 3 50, none, none, e1 .return_]
set_option maxRecDepth 100000 in
def cd13 : Cd := [e1 (.aload_n 0), e1 (.iload_n 1), e1 (.iload_n 2), eS (.invokevirtual 112) 15 2 49, none, none, eA (.ifCond .ne 4) 3 10, none, none, e1 .return_, e1 (.aload_n 0), eG (.getfield 27) 1 5 5 45, none, none, e1 (.iload_n 1), 
  e1 (.iload_n 2), e1 .iastore, e1 (.aload_n 0), eG (.getfield 21) 1 3 3 43, none, none, e1 (.iload_n 2), e1 .dup2, e1 .iaload, eV (.iconst 1) 1 1, e1 .isub, e1 .iastore, e1 (.aload_n 0), eG (.getfield 24) 1 4 4 44, none, 
  none, e1 (.iload_n 2), e1 .dup2, e1 .iaload, eV (.iconst 1) 1 1, e1 (.iload_n 1), e1 .ishl, e1 .ior, e1 .iastore, e1 (.aload_n 0), e1 (.iload_n 1), eV (.iconst 1) 1 1, e1 .iadd, e1 (.iload_n 3), eV (.iconst 1) 1 1, 
  e1 .iadd, e2 (.iload 4), none, e1 (.aload_n 0), eG (.getfield 18) 1 2 2 42, none, none, e1 (.iload_n 1), e1 .iaload, e1 .iadd, eS (.invokevirtual 83) 12 3 46, none, none, e1 (.aload_n 0), eG (.getfield 24) 1 4 4 44, none, 
  none, e1 (.iload_n 2), e1 .dup2, e1 .iaload, eV (.iconst 1) 1 1, e1 (.iload_n 1), e1 .ishl, eV (.iconst (-1)) 1 (-1), e1 .ixor, e1 .iand, e1 .iastore, e1 (.aload_n 0), eG (.getfield 21) 1 3 3 43, none, none, 
  e1 (.iload_n 2), e1 .dup2, e1 .iaload, eV (.iconst 1) 1 1, e1 .iadd, e1 .iastore, e1 .return_]
set_option maxRecDepth 100000 in
def cd14 : Cd := [e1 (.iload_n 1), eA (.ifCond .lt 12) 3 13, none, none, e1 (.iload_n 1), e1 (.aload_n 0), eG (.getfield 27) 1 5 5 45, none, none, e1 .arraylength, eA (.if_icmp .lt 4) 3 14, none, none, e1 .return_, e1 (.aload_n 0), 
  eG (.getfield 27) 1 5 5 45, none, none, e1 (.iload_n 1), some (.ldc 52, 2, 0, 0, -1000000005, 0, [(0, 9)]), none, e1 .iastore, e1 (.aload_n 0), e1 (.iload_n 1), eV (.iconst 1) 1 1, e1 .iadd, e1 (.iload_n 2), 
  e1 (.iload_n 3), eS (.invokevirtual 83) 12 3 46, none, none, e1 .return_]
set_option maxRecDepth 100000 in
def cd15 : Cd := [e1 (.iload_n 1), eA (.ifCond .lt 18) 3 19, none, none, e1 (.iload_n 1), eV (.bipush 10) 2 10, none, eA (.if_icmp .ge 12) 3 19, none, none, e1 (.iload_n 2), eA (.ifCond .lt 8) 3 19, none, none, e1 (.iload_n 2), 
  eV (.iconst 3) 1 3, eA (.if_icmp .lt 5) 3 21, none, none, e1 (.iconst 0), e1 .ireturn, e1 (.aload_n 0), eS (.getfield 9) 1 0 40, none, none, e1 (.iload_n 1), e1 .iaload, e1 (.iload_n 2), e1 .ishr, eV (.iconst 1) 1 1, 
  e1 .iand, eV (.iconst 1) 1 1, eA (.if_icmp .ne 32) 3 64, none, none, e1 (.aload_n 0), eG (.getfield 21) 1 3 3 43, none, none, e1 (.iload_n 2), e1 .iaload, eA (.ifCond .le 23) 3 64, none, none, e1 (.aload_n 0), 
  eG (.getfield 24) 1 4 4 44, none, none, e1 (.iload_n 2), e1 .iaload, e1 (.aload_n 0), eG (.getfield 15) 1 1 1 41, none, none, e1 (.iload_n 1), e1 .iaload, e1 .iand, eA (.ifCond .ne 7) 3 64, none, none, eV (.iconst 1) 1 1, 
  eA (.goto 4) 3 65, none, none, e1 (.iconst 0), e1 .ireturn]
set_option maxRecDepth 100000 in
def cd16 : Cd := [e1 (.iload_n 1), eA (.ifCond .lt 9) 3 10, none, none, e1 (.iload_n 1), eV (.bipush 11) 2 11, none, eA (.if_icmp .lt 5) 3 12, none, none, e1 (.iconst 0), e1 .ireturn, e1 (.iload_n 2), e1 (.aload_n 0), 
  eG (.getfield 33) 1 7 7 47, none, none, e1 (.iload_n 1), e1 .iaload, e1 (.aload_n 0), eG (.getfield 21) 1 3 3 43, none, none, e1 (.iconst 0), e1 .iaload, e1 (.aload_n 0), eG (.getfield 21) 1 3 3 43, none, none, 
  eV (.iconst 1) 1 1, e1 .iaload, e1 .iadd, e1 (.aload_n 0), eG (.getfield 21) 1 3 3 43, none, none, eV (.iconst 2) 1 2, e1 .iaload, e1 .iadd, eS (.invokestatic 64) 1002 2 1, none, none, e1 .iadd, e2 (.istore 4), none, 
  e1 (.aload_n 0), eG (.getfield 46) 1 11 11 51, none, none, e1 (.iload_n 2), e1 .isub, e2 (.istore 5), none, e2 (.iload 4), none, e1 (.aload_n 0), eG (.getfield 46) 1 11 11 51, none, none, eA (.if_icmp .ne 15) 3 74, none, 
  none, e2 (.iload 5), none, eA (.ifCond .lt 10) 3 74, none, none, e2 (.iload 5), none, eV (.bipush 11) 2 11, none, eA (.if_icmp .lt 18) 3 89, none, none, e2 (.iload 4), none, e1 (.aload_n 0), eG (.getfield 46) 1 11 11 51, 
  none, none, eA (.if_icmp .le 7) 3 87, none, none, eV (.iconst 1) 1 1, eA (.goto 4) 3 88, none, none, e1 (.iconst 0), e1 .ireturn, e1 (.iload_n 3), e1 (.aload_n 0), eG (.getfield 36) 1 8 8 48, none, none, e1 (.iload_n 1), 
  eV (.bipush 11) 2 11, none, e1 .imul, e2 (.iload 5), none, e1 .iadd, e1 .iaload, e1 .iadd, e1 (.aload_n 0), eG (.getfield 49) 1 12 12 52, none, none, eA (.if_icmp .ge 7) 3 114, none, none, eV (.iconst 1) 1 1, 
  eA (.goto 4) 3 115, none, none, e1 (.iconst 0), e1 .ireturn]
set_option maxRecDepth 100000 in
def cd17 : Cd := [e1 (.aload_n 0), e1 (.aload_n 1), e1 (.iload_n 2), eS (.invokevirtual 28) 18 2 74, none, none, e1 (.aload_n 0), e1 (.aload_n 1), e1 (.iload_n 2), eS (.invokevirtual 32) 19 2 79, none, none, e1 (.aload_n 1), 
  eS (.getfield 35) 7 0 5, none, none, e1 (.iload_n 2), eV (.iconst 3) 1 3, eS (.invokevirtual 41) 94 2 78, none, none, e1 (.istore_n 3), e1 (.aload_n 1), eS (.getfield 35) 7 0 5, none, none, e1 (.iload_n 2), 
  eV (.bipush 6) 2 6, none, eS (.invokevirtual 41) 94 2 78, none, none, e2 (.istore 4), none, e1 (.iconst 0), e2 (.istore 5), none, e1 (.iconst 0), e2 (.istore 6), none, e2 (.iload 6), none, eV (.sipush 1000) 3 1000, none, 
  none, eA (.if_icmp .ge 87) 3 132, none, none, e2 (.iload 4), none, e1 (.aload_n 0), e2 (.iload 6), none, e1 (.iload_n 3), eS (.invokevirtual 47) 20 2 81, none, none, e1 .iadd, e2 (.istore 4), none, e2 (.iload 5), none, 
  e1 (.aload_n 0), eG (.getfield 21) 2 3 3 38, none, none, eA (.if_icmp .ge 43) 3 109, none, none, e2 (.iload 5), none, e1 (.aload_n 0), eS (.getfield 9) 2 0 35, none, none, e1 .arraylength, eA (.if_icmp .ge 33) 3 109, 
  none, none, e2 (.iload 4), none, e1 (.aload_n 0), eS (.getfield 9) 2 0 35, none, none, e2 (.iload 5), none, e1 .iaload, eA (.if_icmp .lt 21) 3 109, none, none, e2 (.iload 4), none, e1 (.aload_n 0), 
  eS (.getfield 9) 2 0 35, none, none, e2 (.iload 5), none, e1 .iaload, e1 .isub, e2 (.istore 4), none, eV (.iinc 5 1) 3 1, none, none, eA (.goto (-46)) 3 60, none, none, e2 (.iload 5), none, e1 (.aload_n 0), 
  eG (.getfield 21) 2 3 3 38, none, none, eA (.if_icmp .lt 11) 3 126, none, none, e1 (.aload_n 1), eG (.getfield 50) 7 5 5 26, none, none, e2 (.iload 6), none, e1 .iadd, e1 .ireturn, eV (.iinc 6 1) 3 1, none, none, 
  eA (.goto (-89)) 3 40, none, none, some (.ldc 53, 2, 0, 0, -1000000005, 0, [(0, 11)]), none, e1 .ireturn]
set_option maxRecDepth 100000 in
def cd18 : Cd := [e1 (.aload_n 0), e1 (.iconst 0), eG (.putfield 21) 2 3 3 38, none, none, e1 (.aload_n 1), e1 (.iload_n 2), some (.ldc 53, 2, 0, 0, -1000000005, 0, [(0, 11)]), none, eS (.invokevirtual 54) 81 2 75, none, none, 
  e1 (.istore_n 3), e1 (.iload_n 3), some (.ldc 53, 2, 0, 0, -1000000005, 0, [(0, 11)]), none, eA (.if_icmp .eq 53) 3 69, none, none, e1 (.aload_n 0), eG (.getfield 21) 2 3 3 38, none, none, e1 (.aload_n 0), 
  eS (.getfield 9) 2 0 35, none, none, e1 .arraylength, eA (.if_icmp .ge 41) 3 69, none, none, e1 (.aload_n 0), eS (.getfield 9) 2 0 35, none, none, e1 (.aload_n 0), eG (.getfield 21) 2 3 3 38, none, none, e1 (.aload_n 1), 
  eG (.getfield 57) 7 2 2 16, none, none, e1 (.iload_n 3), eV (.iconst 2) 1 2, eS (.invokevirtual 41) 94 2 78, none, none, e1 .iastore, e1 (.aload_n 0), e1 .dup, eG (.getfield 21) 2 3 3 38, none, none, eV (.iconst 1) 1 1, 
  e1 .iadd, eG (.putfield 21) 2 3 3 38, none, none, e1 (.aload_n 1), e1 (.iload_n 2), e1 (.iload_n 3), eS (.invokevirtual 54) 81 2 75, none, none, e1 (.istore_n 3), eA (.goto (-53)) 3 13, none, none, e1 .return_]
set_option maxRecDepth 100000 in
def cd19 : Cd := [e1 (.aload_n 0), e1 (.iconst 0), eG (.putfield 25) 2 4 4 39, none, none, e1 (.iconst 0), e1 (.istore_n 3), e1 (.iload_n 3), e1 (.aload_n 1), eG (.getfield 60) 7 1 1 11, none, none, eS (.invokevirtual 63) 91 0 80, none, 
  none, eA (.if_icmp .ge 94) 3 109, none, none, e1 (.aload_n 0), eG (.getfield 25) 2 4 4 39, none, none, e1 (.aload_n 0), eG (.getfield 15) 2 1 1 36, none, none, e1 .arraylength, eA (.if_icmp .ge 82) 3 109, none, none, 
  e1 (.aload_n 0), eG (.getfield 25) 2 4 4 39, none, none, e1 (.aload_n 0), eG (.getfield 18) 2 2 2 37, none, none, e1 .arraylength, eA (.if_icmp .ge 70) 3 109, none, none, e1 (.aload_n 1), eG (.getfield 60) 7 1 1 11, none, 
  none, e1 (.iload_n 3), eV (.bipush 8) 2 8, none, eS (.invokevirtual 41) 94 2 78, none, none, e1 (.iload_n 2), eA (.if_icmp .ne 50) 3 103, none, none, e1 (.aload_n 0), eG (.getfield 15) 2 1 1 36, none, none, 
  e1 (.aload_n 0), eG (.getfield 25) 2 4 4 39, none, none, e1 (.aload_n 1), eG (.getfield 60) 7 1 1 11, none, none, e1 (.iload_n 3), eV (.iconst 1) 1 1, eS (.invokevirtual 41) 94 2 78, none, none, e1 .iastore, 
  e1 (.aload_n 0), eG (.getfield 18) 2 2 2 37, none, none, e1 (.aload_n 0), eG (.getfield 25) 2 4 4 39, none, none, e1 (.aload_n 1), eG (.getfield 60) 7 1 1 11, none, none, e1 (.iload_n 3), eV (.bipush 7) 2 7, none, 
  eS (.invokevirtual 41) 94 2 78, none, none, e1 .iastore, e1 (.aload_n 0), e1 .dup, eG (.getfield 25) 2 4 4 39, none, none, eV (.iconst 1) 1 1, e1 .iadd, eG (.putfield 25) 2 4 4 39, none, none, eV (.iinc 3 1) 3 1, none, 
  none, eA (.goto (-99)) 3 7, none, none, e1 .return_]
set_option maxRecDepth 100000 in
def cd20 : Cd := [e1 (.iconst 0), e1 (.istore_n 3), e1 (.iconst 0), e2 (.istore 4), none, e2 (.iload 4), none, e1 (.aload_n 0), eG (.getfield 25) 2 4 4 39, none, none, eA (.if_icmp .ge 58) 3 69, none, none, e2 (.iload 4), none, 
  e1 (.aload_n 0), eG (.getfield 15) 2 1 1 36, none, none, e1 .arraylength, eA (.if_icmp .ge 48) 3 69, none, none, e2 (.iload 4), none, e1 (.aload_n 0), eG (.getfield 18) 2 2 2 37, none, none, e1 .arraylength, 
  eA (.if_icmp .ge 38) 3 69, none, none, e1 (.iload_n 3), e1 (.iload_n 2), eV (.iconst 3) 1 3, e1 (.aload_n 0), eG (.getfield 15) 2 1 1 36, none, none, e2 (.iload 4), none, e1 .iaload, e1 (.aload_n 0), 
  eG (.getfield 18) 2 2 2 37, none, none, e2 (.iload 4), none, e1 .iaload, e1 (.iload_n 1), e1 .iadd, eV (.bipush 10) 2 10, none, e1 .idiv, e1 .iadd, eS (.invokestatic 67) 1002 2 3, none, none, e1 .iadd, e1 .iadd, 
  e1 (.istore_n 3), eV (.iinc 4 1) 3 1, none, none, eA (.goto (-61)) 3 5, none, none, e1 (.iload_n 3), e1 .ireturn]
set_option maxRecDepth 100000 in
def cd21 : Cd := [e1 (.aload_n 0), eG (.getfield 15) 3 1 1 32, none, none, e1 .ireturn]
set_option maxRecDepth 100000 in
def cd22 : Cd := [e1 (.aload_n 0), e1 (.iconst 0), eG (.putfield 15) 3 1 1 32, none, none, e1 .return_]
set_option maxRecDepth 100000 in
def cd23 : Cd := [e1 (.aload_n 0), eG (.getfield 15) 3 1 1 32, none, none, eA (.ifCond .lt 15) 3 19, none, none, e1 (.aload_n 0), eG (.getfield 15) 3 1 1 32, none, none, e1 (.aload_n 0), eS (.getfield 9) 3 0 31, none, none, 
  e1 .arraylength, eA (.if_icmp .lt 4) 3 20, none, none, e1 .return_, e1 (.aload_n 0), eS (.getfield 9) 3 0 31, none, none, e1 (.aload_n 0), eG (.getfield 15) 3 1 1 32, none, none, e1 (.iload_n 1), e1 .iastore, 
  e1 (.aload_n 0), e1 .dup, eG (.getfield 15) 3 1 1 32, none, none, eV (.iconst 1) 1 1, e1 .iadd, eG (.putfield 15) 3 1 1 32, none, none, e1 .return_]
set_option maxRecDepth 100000 in
def cd24 : Cd := [e1 (.iload_n 1), eA (.ifCond .lt 29) 3 30, none, none, e1 (.iload_n 1), e1 (.aload_n 0), eG (.getfield 15) 3 1 1 32, none, none, eA (.if_icmp .ge 21) 3 30, none, none, e1 (.iload_n 1), e1 (.aload_n 0), 
  eS (.getfield 9) 3 0 31, none, none, e1 .arraylength, eA (.if_icmp .ge 12) 3 30, none, none, e1 (.aload_n 0), eS (.getfield 9) 3 0 31, none, none, e1 (.iload_n 1), e1 .iaload, eA (.goto 4) 3 31, none, none, 
  e1 (.iconst 0), e1 .ireturn]
set_option maxRecDepth 100000 in
def cd25 : Cd := [e1 (.aload_n 0), eG (.getfield 15) 3 1 1 32, none, none, eA (.ifCond .le 29) 3 33, none, none, e1 (.aload_n 0), eG (.getfield 15) 3 1 1 32, none, none, e1 (.aload_n 0), eS (.getfield 9) 3 0 31, none, none, 
  e1 .arraylength, eA (.if_icmp .gt 17) 3 33, none, none, e1 (.aload_n 0), eS (.getfield 9) 3 0 31, none, none, e1 (.aload_n 0), eG (.getfield 15) 3 1 1 32, none, none, eV (.iconst 1) 1 1, e1 .isub, e1 .iaload, 
  eA (.goto 4) 3 34, none, none, e1 (.iconst 0), e1 .ireturn]
set_option maxRecDepth 100000 in
def cd26 : Cd := [e1 (.aload_n 0), eG (.getfield 15) 3 1 1 32, none, none, eA (.ifCond .le 15) 3 19, none, none, e1 (.aload_n 0), eG (.getfield 15) 3 1 1 32, none, none, e1 (.aload_n 0), eS (.getfield 9) 3 0 31, none, none, 
  e1 .arraylength, eA (.if_icmp .le 5) 3 21, none, none, e1 (.iconst 0), e1 .ireturn, e1 (.aload_n 0), e1 .dup, eG (.getfield 15) 3 1 1 32, none, none, eV (.iconst 1) 1 1, e1 .isub, eG (.putfield 15) 3 1 1 32, none, none, 
  e1 (.aload_n 0), eS (.getfield 9) 3 0 31, none, none, e1 (.aload_n 0), eG (.getfield 15) 3 1 1 32, none, none, e1 .iaload, e1 .ireturn]
set_option maxRecDepth 100000 in
def cd27 : Cd := [e1 (.aload_n 0), eS (.invokevirtual 54) 29 0 90, none, none, e1 (.aload_n 0), eS (.invokevirtual 57) 30 0 92, none, none, e1 (.aload_n 0), e1 (.aload_n 0), eS (.invokevirtual 60) 35 0 99, none, none, 
  eG (.putfield 21) 4 3 3 58, none, none, e1 (.aload_n 0), eG (.getfield 21) 4 3 3 58, none, none, some (.ldc 64, 2, 0, 0, -1000000005, 0, [(0, 12)]), none, eA (.if_icmp .ne 8) 3 30, none, none, e1 (.aload_n 0), 
  eG (.getfield 28) 4 5 5 60, none, none, e1 .ireturn, e1 (.aload_n 0), eS (.invokevirtual 57) 30 0 92, none, none, e1 (.iconst 0), e1 (.istore_n 1), e1 (.iload_n 1), eV (.bipush 96) 2 96, none, eA (.if_icmp .ge 48) 3 87, 
  none, none, e1 (.aload_n 0), eG (.getfield 34) 4 7 7 62, none, none, eA (.ifCond .eq 41) 3 87, none, none, e1 (.aload_n 0), eG (.getfield 40) 4 9 9 64, none, none, eA (.ifCond .eq 10) 3 63, none, none, e1 (.aload_n 0), 
  eS (.invokevirtual 65) 39 0 102, none, none, eA (.goto 7) 3 67, none, none, e1 (.aload_n 0), eS (.invokevirtual 69) 43 0 111, none, none, e1 (.istore_n 2), e1 (.iload_n 2), eA (.ifCond .ne 8) 3 77, none, none, 
  e1 (.aload_n 0), eG (.getfield 28) 4 5 5 60, none, none, e1 .ireturn, e1 (.aload_n 0), eS (.invokevirtual 57) 30 0 92, none, none, eV (.iinc 1 1) 3 1, none, none, eA (.goto (-48)) 3 36, none, none, e1 (.aload_n 0), 
  eG (.getfield 40) 4 9 9 64, none, none, eA (.ifCond .ne 10) 3 101, none, none, e1 (.aload_n 0), eG (.getfield 44) 4 10 10 65, none, none, eA (.ifCond .le 8) 3 106, none, none, e1 (.aload_n 0), eG (.getfield 28) 4 5 5 60, 
  none, none, e1 .ireturn, e1 (.aload_n 0), eV (.iconst 1) 1 1, eS (.invokevirtual 72) 46 1 113, none, none, some (.ldc 64, 2, 0, 0, -1000000005, 0, [(0, 12)]), none, e1 .ireturn]
set_option maxRecDepth 100000 in
def cd28 : Cd := [e1 (.aload_n 1), e1 (.iload_n 2), e1 (.iconst 0), e1 (.aload_n 0), eG (.getfield 21) 4 3 3 58, none, none, eS (.invokevirtual 76) 95 3 116, none, none, e1 (.aload_n 1), e1 (.iload_n 2), eV (.iconst 2) 1 2, 
  e1 (.aload_n 0), eG (.getfield 25) 4 4 4 59, none, none, eS (.invokevirtual 76) 95 3 116, none, none, e1 (.aload_n 1), e1 (.iload_n 2), eV (.iconst 3) 1 3, e1 (.aload_n 0), eG (.getfield 12) 4 1 1 56, none, none, 
  eS (.invokevirtual 82) 21 0 117, none, none, eS (.invokevirtual 76) 95 3 116, none, none, e1 (.iconst 0), e1 (.istore_n 3), e1 (.iload_n 3), e1 (.aload_n 0), eG (.getfield 12) 4 1 1 56, none, none, 
  eS (.invokevirtual 82) 21 0 117, none, none, eA (.if_icmp .ge 25) 3 68, none, none, e1 (.aload_n 1), e1 (.iload_n 2), eV (.iconst 4) 1 4, e1 (.iload_n 3), e1 .iadd, e1 (.aload_n 0), eG (.getfield 12) 4 1 1 56, none, none, 
  e1 (.iload_n 3), eS (.invokevirtual 85) 24 1 118, none, none, eS (.invokevirtual 76) 95 3 116, none, none, eV (.iinc 3 1) 3 1, none, none, eA (.goto (-30)) 3 35, none, none, e1 .return_]
set_option maxRecDepth 100000 in
def cd29 : Cd := [e1 (.aload_n 0), eG (.getfield 12) 4 1 1 56, none, none, eS (.invokevirtual 89) 22 0 91, none, none, e1 (.aload_n 0), eG (.getfield 18) 4 2 2 57, none, none, eS (.invokevirtual 89) 22 0 91, none, none, e1 (.aload_n 0), 
  e1 (.iconst 0), eG (.putfield 25) 4 4 4 59, none, none, e1 (.aload_n 0), e1 (.iconst 0), eG (.putfield 31) 4 6 6 61, none, none, e1 (.aload_n 0), eV (.iconst 3) 1 3, eG (.putfield 34) 4 7 7 62, none, none, 
  e1 (.aload_n 0), eV (.iconst 1) 1 1, eG (.putfield 40) 4 9 9 64, none, none, e1 (.aload_n 0), e1 (.iconst 0), eG (.putfield 44) 4 10 10 65, none, none, e1 (.aload_n 0), e1 (.iconst 0), eG (.putfield 47) 4 11 11 66, none, 
  none, e1 .return_]
set_option maxRecDepth 100000 in
def cd30 : Cd := [e1 (.aload_n 0), eG (.getfield 34) 4 7 7 62, none, none, eV (.iconst 1) 1 1, eA (.if_icmp .eq 11) 3 16, none, none, e1 (.aload_n 0), eG (.getfield 34) 4 7 7 62, none, none, eV (.iconst 2) 1 2, eA (.if_icmp .ne 7) 3 20, 
  none, none, eV (.iconst 1) 1 1, eA (.goto 4) 3 21, none, none, e1 (.iconst 0), e1 (.istore_n 1), e1 (.aload_n 0), eG (.getfield 31) 4 6 6 61, none, none, e1 (.istore_n 2), e1 (.aload_n 0), eG (.getfield 31) 4 6 6 61, 
  none, none, e1 (.aload_n 0), eS (.getfield 50) 4 0 55, none, none, eS (.invokevirtual 92) 100 0 93, none, none, eA (.if_icmp .ge 32) 3 70, none, none, e1 (.aload_n 0), eS (.getfield 50) 4 0 55, none, none, 
  e1 (.aload_n 0), eG (.getfield 31) 4 6 6 61, none, none, eS (.invokevirtual 95) 104 1 94, none, none, eV (.bipush 32) 2 32, none, eA (.if_icmp .ne 16) 3 70, none, none, e1 (.aload_n 0), e1 .dup, 
  eG (.getfield 31) 4 6 6 61, none, none, eV (.iconst 1) 1 1, e1 .iadd, eG (.putfield 31) 4 6 6 61, none, none, eA (.goto (-40)) 3 27, none, none, e1 (.aload_n 0), e1 (.aload_n 0), eG (.getfield 31) 4 6 6 61, none, none, 
  eG (.putfield 28) 4 5 5 60, none, none, e1 (.aload_n 0), eS (.getfield 50) 4 0 55, none, none, e1 (.aload_n 0), eG (.getfield 28) 4 5 5 60, none, none, eS (.invokevirtual 95) 104 1 94, none, none, e1 (.istore_n 3), 
  e1 (.iload_n 3), eA (.ifCond .ge 11) 3 102, none, none, e1 (.aload_n 0), e1 (.iconst 0), eG (.putfield 34) 4 7 7 62, none, none, eA (.goto 61) 3 160, none, none, e1 (.iload_n 3), eS (.invokestatic 96) 33 1 95, none, none, 
  eA (.ifCond .eq 15) 3 121, none, none, e1 (.aload_n 0), eV (.iconst 1) 1 1, eG (.putfield 34) 4 7 7 62, none, none, e1 (.aload_n 0), eS (.invokevirtual 100) 31 0 96, none, none, eA (.goto 42) 3 160, none, none, 
  e1 (.iload_n 3), eS (.invokestatic 103) 34 1 97, none, none, eA (.ifCond .eq 15) 3 140, none, none, e1 (.aload_n 0), eV (.iconst 2) 1 2, eG (.putfield 34) 4 7 7 62, none, none, e1 (.aload_n 0), 
  eS (.invokevirtual 106) 32 0 98, none, none, eA (.goto 23) 3 160, none, none, e1 (.aload_n 0), eV (.iconst 3) 1 3, eG (.putfield 34) 4 7 7 62, none, none, e1 (.aload_n 0), e1 (.iload_n 3), eG (.putfield 37) 4 8 8 63, 
  none, none, e1 (.aload_n 0), e1 .dup, eG (.getfield 31) 4 6 6 61, none, none, eV (.iconst 1) 1 1, e1 .iadd, eG (.putfield 31) 4 6 6 61, none, none, e1 (.iload_n 1), eA (.ifCond .eq 32) 3 193, none, none, e1 (.aload_n 0), 
  eG (.getfield 28) 4 5 5 60, none, none, e1 (.iload_n 2), eA (.if_icmp .ne 24) 3 193, none, none, e1 (.aload_n 0), eG (.getfield 34) 4 7 7 62, none, none, eV (.iconst 1) 1 1, eA (.if_icmp .eq 11) 3 188, none, none, 
  e1 (.aload_n 0), eG (.getfield 34) 4 7 7 62, none, none, eV (.iconst 2) 1 2, eA (.if_icmp .ne 8) 3 193, none, none, e1 (.aload_n 0), eV (.iconst 4) 1 4, eG (.putfield 34) 4 7 7 62, none, none, e1 .return_]
set_option maxRecDepth 100000 in
def cd31 : Cd := [e1 (.aload_n 0), eG (.getfield 31) 4 6 6 61, none, none, e1 (.aload_n 0), eS (.getfield 50) 4 0 55, none, none, eS (.invokevirtual 92) 100 0 93, none, none, eA (.if_icmp .ge 33) 3 44, none, none, e1 (.aload_n 0), 
  eS (.getfield 50) 4 0 55, none, none, e1 (.aload_n 0), eG (.getfield 31) 4 6 6 61, none, none, eS (.invokevirtual 95) 104 1 94, none, none, eS (.invokestatic 96) 33 1 95, none, none, eA (.ifCond .eq 16) 3 44, none, none, 
  e1 (.aload_n 0), e1 .dup, eG (.getfield 31) 4 6 6 61, none, none, eV (.iconst 1) 1 1, e1 .iadd, eG (.putfield 31) 4 6 6 61, none, none, e3 (.goto (-41)), none, none, e1 .return_]
set_option maxRecDepth 100000 in
def cd32 : Cd := [e1 (.aload_n 0), e1 (.iconst 0), eG (.putfield 37) 4 8 8 63, none, none, e1 (.aload_n 0), eG (.getfield 31) 4 6 6 61, none, none, e1 (.aload_n 0), eS (.getfield 50) 4 0 55, none, none, eS (.invokevirtual 92) 100 0 93, 
  none, none, eA (.if_icmp .ge 65) 3 81, none, none, e1 (.aload_n 0), eS (.getfield 50) 4 0 55, none, none, e1 (.aload_n 0), eG (.getfield 31) 4 6 6 61, none, none, eS (.invokevirtual 95) 104 1 94, none, none, 
  eS (.invokestatic 103) 34 1 97, none, none, eA (.ifCond .eq 48) 3 81, none, none, e1 (.aload_n 0), eV (.sipush 9999) 3 9999, none, none, e1 (.aload_n 0), eG (.getfield 37) 4 8 8 63, none, none, eV (.bipush 10) 2 10, none, 
  e1 .imul, e1 (.aload_n 0), eS (.getfield 50) 4 0 55, none, none, e1 (.aload_n 0), eG (.getfield 31) 4 6 6 61, none, none, eS (.invokevirtual 95) 104 1 94, none, none, e1 .iadd, eV (.bipush 48) 2 48, none, e1 .isub, 
  eS (.invokestatic 109) 1002 2 6, none, none, eG (.putfield 37) 4 8 8 63, none, none, e1 (.aload_n 0), e1 .dup, eG (.getfield 31) 4 6 6 61, none, none, eV (.iconst 1) 1 1, e1 .iadd, eG (.putfield 31) 4 6 6 61, none, none, 
  eA (.goto (-73)) 3 5, none, none, e1 .return_]
set_option maxRecDepth 100000 in
def cd33 : Cd := [e1 (.iload_n 0), eV (.bipush 97) 2 97, none, eA (.if_icmp .lt 13) 3 16, none, none, e1 (.iload_n 0), eV (.bipush 122) 2 122, none, eA (.if_icmp .gt 7) 3 16, none, none, eV (.iconst 1) 1 1, eA (.goto 4) 3 17, none, none, 
  e1 (.iconst 0), e1 .ireturn]
set_option maxRecDepth 100000 in
def cd34 : Cd := [e1 (.iload_n 0), eV (.bipush 48) 2 48, none, eA (.if_icmp .lt 13) 3 16, none, none, e1 (.iload_n 0), eV (.bipush 57) 2 57, none, eA (.if_icmp .gt 7) 3 16, none, none, eV (.iconst 1) 1 1, eA (.goto 4) 3 17, none, none, 
  e1 (.iconst 0), e1 .ireturn]
set_option maxRecDepth 100000 in
def cd35 : Cd := [e1 (.iconst 0), e1 (.istore_n 1), e1 (.iload_n 1), eV (.bipush 6) 2 6, none, eA (.if_icmp .ge 30) 3 35, none, none, e1 (.aload_n 0), eG (.getfield 34) 4 7 7 62, none, none, eV (.iconst 1) 1 1, eA (.if_icmp .ne 22) 3 35, 
  none, none, e1 (.aload_n 0), e1 (.iload_n 1), eS (.invokestatic 115) 37 1 100, none, none, eS (.invokevirtual 119) 36 1 101, none, none, eA (.ifCond .eq 5) 3 29, none, none, e1 (.iload_n 1), e1 .ireturn, 
  eV (.iinc 1 1) 3 1, none, none, eA (.goto (-30)) 3 2, none, none, some (.ldc 64, 2, 0, 0, -1000000005, 0, [(0, 12)]), none, e1 .ireturn]
set_option maxRecDepth 100000 in
def cd36 : Cd := [e1 (.aload_n 1), eA (.ifnull 19) 3 20, none, none, e1 (.aload_n 1), eS (.invokevirtual 123) 900 0 7, none, none, e1 (.aload_n 0), eG (.getfield 31) 4 6 6 61, none, none, e1 (.aload_n 0), eG (.getfield 28) 4 5 5 60, none, 
  none, e1 .isub, eA (.if_icmp .eq 5) 3 22, none, none, e1 (.iconst 0), e1 .ireturn, e1 (.iconst 0), e1 (.istore_n 2), e1 (.iload_n 2), e1 (.aload_n 1), eS (.invokevirtual 123) 900 0 7, none, none, 
  eA (.if_icmp .ge 32) 3 61, none, none, e1 (.aload_n 1), e1 (.iload_n 2), eS (.invokevirtual 128) 901 1 8, none, none, e1 (.aload_n 0), eS (.getfield 50) 4 0 55, none, none, e1 (.aload_n 0), eG (.getfield 28) 4 5 5 60, 
  none, none, e1 (.iload_n 2), e1 .iadd, eS (.invokevirtual 95) 104 1 94, none, none, eA (.if_icmp .eq 5) 3 55, none, none, e1 (.iconst 0), e1 .ireturn, eV (.iinc 2 1) 3 1, none, none, eA (.goto (-34)) 3 24, none, none, 
  eV (.iconst 1) 1 1, e1 .ireturn]
set_option maxRecDepth 100000 in
def cd37 : Cd := [e1 (.iload_n 0), some (.tableswitch 50 0 4 #[35, 38, 41, 44, 47], 35, 51, 0, 0, 0, [(0, 36), (1, 39), (2, 42), (3, 45), (4, 48)]), none, none, none, none, none, none, none, none, none, none, none, none, none, none, none, 
  none, none, none, none, none, none, none, none, none, none, none, none, none, none, none, none, none, none, none, some (.ldc 132, 2, 1000, 0, 0, 0, [(0, 0)]), none, e1 .areturn, 
  some (.ldc 134, 2, 1001, 0, 0, 0, [(0, 1)]), none, e1 .areturn, some (.ldc 136, 2, 1002, 0, 0, 0, [(0, 2)]), none, e1 .areturn, some (.ldc 138, 2, 1003, 0, 0, 0, [(0, 3)]), none, e1 .areturn, 
  some (.ldc 140, 2, 1004, 0, 0, 0, [(0, 4)]), none, e1 .areturn, some (.ldc 142, 2, 1005, 0, 0, 0, [(0, 5)]), none, e1 .areturn]
set_option maxRecDepth 100000 in
def cd38 : Cd := [e1 (.iload_n 0), some (.tableswitch 50 0 4 #[35, 38, 41, 44, 47], 35, 51, 0, 0, 0, [(0, 36), (1, 39), (2, 42), (3, 45), (4, 48)]), none, none, none, none, none, none, none, none, none, none, none, none, none, none, none, 
  none, none, none, none, none, none, none, none, none, none, none, none, none, none, none, none, none, none, none, some (.ldc 144, 2, 1006, 0, 0, 0, [(0, 6)]), none, e1 .areturn, 
  some (.ldc 146, 2, 1007, 0, 0, 0, [(0, 7)]), none, e1 .areturn, some (.ldc 148, 2, 1008, 0, 0, 0, [(0, 8)]), none, e1 .areturn, some (.ldc 150, 2, 1009, 0, 0, 0, [(0, 9)]), none, e1 .areturn, 
  some (.ldc 152, 2, 1010, 0, 0, 0, [(0, 10)]), none, e1 .areturn, some (.ldc 154, 2, 1011, 0, 0, 0, [(0, 11)]), none, e1 .areturn]
set_option maxRecDepth 100000 in
def cd39 : Cd := [e1 (.aload_n 0), eG (.getfield 34) 4 7 7 62, none, none, some (.tableswitch 68 1 3 #[58, 28, 63], 28, 72, 0, 0, 0, [(1, 62), (2, 32), (3, 67)]), none, none, none, none, none, none, none, none, none, none, none, none, 
  none, none, none, none, none, none, none, none, none, none, none, none, none, none, none, e1 (.aload_n 0), eG (.getfield 31) 4 6 6 61, none, none, e1 (.aload_n 0), eG (.getfield 28) 4 5 5 60, none, none, e1 .isub, 
  eV (.iconst 4) 1 4, eA (.if_icmp .gt 18) 3 60, none, none, e1 (.aload_n 0), e1 (.aload_n 0), eG (.getfield 37) 4 8 8 63, none, none, eS (.invokevirtual 156) 41 1 103, none, none, eA (.ifCond .eq 7) 3 60, none, none, 
  eV (.iconst 1) 1 1, eA (.goto 4) 3 61, none, none, e1 (.iconst 0), e1 .ireturn, e1 (.aload_n 0), eS (.invokevirtual 159) 40 0 108, none, none, e1 .ireturn, e1 (.aload_n 0), eS (.invokevirtual 162) 42 0 110, none, none, 
  e1 .ireturn, e1 (.iconst 0), e1 .ireturn]
set_option maxRecDepth 100000 in
def cd40 : Cd := [e1 (.aload_n 0), eG (.getfield 31) 4 6 6 61, none, none, e1 (.aload_n 0), eG (.getfield 28) 4 5 5 60, none, none, e1 .isub, eV (.iconst 1) 1 1, eA (.if_icmp .ne 28) 3 38, none, none, e1 (.aload_n 0), 
  eG (.getfield 21) 4 3 3 58, none, none, eS (.invokestatic 165) 38 1 109, none, none, e1 (.aload_n 0), eS (.getfield 50) 4 0 55, none, none, e1 (.aload_n 0), eG (.getfield 28) 4 5 5 60, none, none, 
  eS (.invokevirtual 95) 104 1 94, none, none, e1 .i2c, eS (.invokevirtual 168) 902 1 9, none, none, eA (.goto 4) 3 39, none, none, eV (.iconst (-1)) 1 (-1), e1 (.istore_n 1), e1 (.iload_n 1), eA (.ifCond .lt 19) 3 60, 
  none, none, e1 (.aload_n 0), eV (.sipush 10000) 3 10000, none, none, e1 (.iload_n 1), e1 .iadd, eS (.invokevirtual 156) 41 1 103, none, none, eA (.ifCond .eq 7) 3 60, none, none, eV (.iconst 1) 1 1, eA (.goto 4) 3 61, 
  none, none, e1 (.iconst 0), e1 .ireturn]
set_option maxRecDepth 100000 in
def cd41 : Cd := [e1 (.aload_n 0), eG (.getfield 12) 4 1 1 56, none, none, e1 (.iload_n 1), eS (.invokevirtual 171) 23 1 104, none, none, e1 (.aload_n 0), e1 .dup, eG (.getfield 25) 4 4 4 59, none, none, eV (.iconst 1) 1 1, e1 .iadd, 
  eG (.putfield 25) 4 4 4 59, none, none, e1 (.aload_n 0), eS (.invokevirtual 174) 45 0 105, none, none, eV (.iconst 1) 1 1, e1 .ireturn]
set_option maxRecDepth 100000 in
def cd42 : Cd := [e1 (.aload_n 0), eG (.getfield 37) 4 8 8 63, none, none, eV (.bipush 33) 2 33, none, eA (.if_icmp .ne 25) 3 31, none, none, e1 (.aload_n 0), eG (.getfield 47) 4 11 11 66, none, none, eV (.bipush 8) 2 8, none, 
  eA (.if_icmp .ge 16) 3 31, none, none, e1 (.aload_n 0), e1 .dup, eG (.getfield 47) 4 11 11 66, none, none, eV (.iconst 1) 1 1, e1 .iadd, eG (.putfield 47) 4 11 11 66, none, none, eA (.goto 36) 3 64, none, none, 
  e1 (.aload_n 0), eG (.getfield 37) 4 8 8 63, none, none, eV (.bipush 40) 2 40, none, eA (.if_icmp .ne 25) 3 62, none, none, e1 (.aload_n 0), eG (.getfield 44) 4 10 10 65, none, none, eV (.bipush 8) 2 8, none, 
  eA (.if_icmp .ge 16) 3 62, none, none, e1 (.aload_n 0), e1 .dup, eG (.getfield 44) 4 10 10 65, none, none, eV (.iconst 1) 1 1, e1 .iadd, eG (.putfield 44) 4 10 10 65, none, none, eA (.goto 5) 3 64, none, none, 
  e1 (.iconst 0), e1 .ireturn, e1 (.aload_n 0), eG (.getfield 18) 4 2 2 57, none, none, e1 (.aload_n 0), eG (.getfield 37) 4 8 8 63, none, none, eS (.invokevirtual 171) 23 1 104, none, none, eV (.iconst 1) 1 1, e1 .ireturn]
set_option maxRecDepth 100000 in
def cd43 : Cd := [e1 (.aload_n 0), eG (.getfield 34) 4 7 7 62, none, none, eV (.iconst 3) 1 3, eA (.if_icmp .eq 5) 3 10, none, none, e1 (.iconst 0), e1 .ireturn, e1 (.aload_n 0), eG (.getfield 37) 4 8 8 63, none, none, 
  eV (.bipush 41) 2 41, none, eA (.if_icmp .ne 8) 3 24, none, none, e1 (.aload_n 0), eS (.invokevirtual 177) 44 0 112, none, none, e1 .ireturn, e1 (.aload_n 0), eG (.getfield 37) 4 8 8 63, none, none, 
  eS (.invokestatic 180) 47 1 114, none, none, e1 (.istore_n 1), e1 (.aload_n 0), e1 (.iload_n 1), eV (.iconst 3) 1 3, eA (.if_icmp .ne 9) 3 44, none, none, e1 (.iload_n 1), eV (.iconst 1) 1 1, e1 .iadd, eA (.goto 8) 3 49, 
  none, none, e1 (.iload_n 1), eV (.iconst 1) 1 1, eS (.invokestatic 183) 1001 2 10, none, none, eS (.invokevirtual 72) 46 1 113, none, none, e1 (.iload_n 1), eA (.ifCond .eq 22) 3 75, none, none, e1 (.iload_n 1), 
  eV (.iconst 3) 1 3, eA (.if_icmp .ne 19) 3 77, none, none, e1 (.aload_n 0), eG (.getfield 18) 4 2 2 57, none, none, eS (.invokevirtual 186) 25 0 106, none, none, eS (.invokestatic 180) 47 1 114, none, none, 
  eV (.iconst 3) 1 3, eA (.if_icmp .ne 5) 3 77, none, none, e1 (.iconst 0), e1 .ireturn, e1 (.aload_n 0), eG (.getfield 18) 4 2 2 57, none, none, e1 (.aload_n 0), eG (.getfield 37) 4 8 8 63, none, none, 
  eS (.invokevirtual 171) 23 1 104, none, none, e1 (.aload_n 0), eV (.iconst 1) 1 1, eG (.putfield 40) 4 9 9 64, none, none, eV (.iconst 1) 1 1, e1 .ireturn]
set_option maxRecDepth 100000 in
def cd44 : Cd := [e1 (.aload_n 0), eG (.getfield 44) 4 10 10 65, none, none, eA (.ifCond .ne 5) 3 9, none, none, e1 (.iconst 0), e1 .ireturn, e1 (.aload_n 0), eV (.iconst 1) 1 1, eS (.invokevirtual 72) 46 1 113, none, none, 
  e1 (.aload_n 0), eG (.getfield 18) 4 2 2 57, none, none, eS (.invokevirtual 189) 26 0 107, none, none, e1 .pop, e1 (.aload_n 0), e1 .dup, eG (.getfield 44) 4 10 10 65, none, none, eV (.iconst 1) 1 1, e1 .isub, 
  eG (.putfield 44) 4 10 10 65, none, none, e1 (.aload_n 0), eS (.invokevirtual 174) 45 0 105, none, none, eV (.iconst 1) 1 1, e1 .ireturn]
set_option maxRecDepth 100000 in
def cd45 : Cd := [e1 (.aload_n 0), eG (.getfield 47) 4 11 11 66, none, none, eA (.ifCond .le 46) 3 50, none, none, e1 (.aload_n 0), eG (.getfield 18) 4 2 2 57, none, none, eS (.invokevirtual 186) 25 0 106, none, none, eV (.bipush 33) 2 33, 
  none, eA (.if_icmp .ne 34) 3 50, none, none, e1 (.aload_n 0), eG (.getfield 12) 4 1 1 56, none, none, eV (.sipush 20000) 3 20000, none, none, e1 (.aload_n 0), eG (.getfield 18) 4 2 2 57, none, none, 
  eS (.invokevirtual 189) 26 0 107, none, none, e1 .iadd, eS (.invokevirtual 171) 23 1 104, none, none, e1 (.aload_n 0), e1 .dup, eG (.getfield 47) 4 11 11 66, none, none, eV (.iconst 1) 1 1, e1 .isub, 
  eG (.putfield 47) 4 11 11 66, none, none, e3 (.goto (-47)), none, none, e1 (.aload_n 0), e1 (.iconst 0), eG (.putfield 40) 4 9 9 64, none, none, e1 .return_]
set_option maxRecDepth 100000 in
def cd46 : Cd := [e1 (.iconst 0), e1 (.istore_n 2), e1 (.iload_n 2), eV (.bipush 96) 2 96, none, eA (.if_icmp .ge 41) 3 46, none, none, e1 (.aload_n 0), eG (.getfield 18) 4 2 2 57, none, none, eS (.invokevirtual 186) 25 0 106, none, none, 
  eS (.invokestatic 180) 47 1 114, none, none, e1 (.iload_n 1), eA (.if_icmp .lt 27) 3 46, none, none, e1 (.aload_n 0), eG (.getfield 12) 4 1 1 56, none, none, eV (.sipush 20000) 3 20000, none, none, e1 (.aload_n 0), 
  eG (.getfield 18) 4 2 2 57, none, none, eS (.invokevirtual 189) 26 0 107, none, none, e1 .iadd, eS (.invokevirtual 171) 23 1 104, none, none, eV (.iinc 2 1) 3 1, none, none, eA (.goto (-41)) 3 2, none, none, e1 .return_]
set_option maxRecDepth 100000 in
def cd47 : Cd := [e1 (.iload_n 0), 
  some (.lookupswitch 93 #[(38, 85), (42, 91), (43, 89), (45, 89), (47, 91), (60, 87), (61, 87), (62, 87), (124, 83)], 83, 94, 0, 0, 0, [(38, 86), (42, 92), (43, 90), (45, 90), (47, 92), (60, 88), (61, 88), (62, 88), (124, 84)]), 
  none, none, none, none, none, none, none, none, none, none, none, none, none, none, none, none, none, none, none, none, none, none, none, none, none, none, none, none, none, none, none, none, none, none, none, none, none, 
  none, none, none, none, none, none, none, none, none, none, none, none, none, none, none, none, none, none, none, none, none, none, none, none, none, none, none, none, none, none, none, none, none, none, none, none, none, 
  none, none, none, none, none, none, none, none, eV (.iconst 1) 1 1, e1 .ireturn, eV (.iconst 2) 1 2, e1 .ireturn, eV (.iconst 3) 1 3, e1 .ireturn, eV (.iconst 4) 1 4, e1 .ireturn, eV (.iconst 5) 1 5, e1 .ireturn, 
  e1 (.iconst 0), e1 .ireturn]
set_option maxRecDepth 100000 in
def cd48 : Cd := [e1 (.aload_n 1), e1 (.iload_n 2), eS (.invokevirtual 18) 83 1 124, none, none, e2 (.istore 6), none, e2 (.iload 6), none, some (.ldc 24, 2, 0, 0, -1000000005, 0, [(0, 13)]), none, eA (.if_icmp .ne 13) 3 24, none, none, 
  e1 (.iload_n 2), eA (.ifCond .ne 7) 3 22, none, none, e1 (.iload_n 3), eA (.goto 4) 3 23, none, none, e1 (.iconst 0), e1 .ireturn, e1 (.iconst 0), eV (.sipush 9999) 3 9999, none, none, e1 (.aload_n 0), e1 (.aload_n 1), 
  eG (.getfield 25) 7 3 3 20, none, none, e2 (.iload 6), none, e1 (.iload_n 3), e2 (.iload 4), none, e2 (.iload 5), none, eS (.invokevirtual 29) 49 5 125, none, none, eS (.invokestatic 33) 1002 2 11, none, none, 
  eS (.invokestatic 39) 1001 2 12, none, none, e1 .ireturn]
set_option maxRecDepth 100000 in
def cd49 : Cd := [e1 (.aload_n 0), eS (.getfield 12) 5 0 33, none, none, eS (.invokevirtual 42) 22 0 126, none, none, eV (.iconst 4) 1 4, e1 (.aload_n 1), e1 (.iload_n 2), eV (.iconst 3) 1 3, eS (.invokevirtual 45) 94 2 127, none, none, 
  e1 .iadd, e2 (.istore 6), none, eV (.iconst 4) 1 4, e2 (.istore 7), none, e2 (.iload 7), none, e2 (.iload 6), none, eA (.if_icmp .ge 157) 3 181, none, none, e1 (.aload_n 1), e1 (.iload_n 2), e2 (.iload 7), none, 
  eS (.invokevirtual 45) 94 2 127, none, none, e2 (.istore 8), none, e2 (.iload 8), none, eV (.sipush 10000) 3 10000, none, none, eA (.if_icmp .ge 15) 3 56, none, none, e1 (.aload_n 0), eS (.getfield 12) 5 0 33, none, none, 
  e2 (.iload 8), none, eS (.invokevirtual 50) 23 1 128, none, none, eA (.goto 122) 3 175, none, none, e2 (.iload 8), none, eV (.sipush 20000) 3 20000, none, none, eA (.if_icmp .ge 40) 3 101, none, none, e1 (.aload_n 0), 
  eS (.getfield 12) 5 0 33, none, none, e2 (.iload 8), none, eV (.sipush 10000) 3 10000, none, none, eA (.if_icmp .ne 7) 3 80, none, none, e1 (.iload_n 3), eA (.goto 18) 3 95, none, none, e2 (.iload 8), none, 
  eV (.sipush 10001) 3 10001, none, none, eA (.if_icmp .ne 8) 3 93, none, none, e2 (.iload 4), none, eA (.goto 5) 3 95, none, none, e2 (.iload 5), none, eS (.invokevirtual 50) 23 1 128, none, none, eA (.goto 77) 3 175, 
  none, none, e2 (.iload 8), none, eV (.sipush 20033) 3 20033, none, none, eA (.if_icmp .ne 31) 3 137, none, none, e1 (.aload_n 0), eS (.getfield 12) 5 0 33, none, none, e1 (.aload_n 0), eS (.getfield 12) 5 0 33, none, 
  none, eS (.invokevirtual 54) 26 0 129, none, none, eA (.ifCond .ne 7) 3 127, none, none, eV (.iconst 1) 1 1, eA (.goto 4) 3 128, none, none, e1 (.iconst 0), eS (.invokestatic 58) 51 1 130, none, none, 
  eS (.invokevirtual 50) 23 1 128, none, none, eA (.goto 41) 3 175, none, none, e1 (.aload_n 0), eS (.getfield 12) 5 0 33, none, none, eS (.invokevirtual 54) 26 0 129, none, none, e2 (.istore 9), none, e1 (.aload_n 0), 
  eS (.getfield 12) 5 0 33, none, none, eS (.invokevirtual 54) 26 0 129, none, none, e2 (.istore 10), none, e1 (.aload_n 0), eS (.getfield 12) 5 0 33, none, none, e2 (.iload 8), none, eV (.sipush 20000) 3 20000, none, none, 
  e1 .isub, e2 (.iload 10), none, e2 (.iload 9), none, eS (.invokestatic 62) 50 3 131, none, none, eS (.invokevirtual 50) 23 1 128, none, none, eV (.iinc 7 1) 3 1, none, none, eA (.goto (-158)) 3 20, none, none, 
  e1 (.aload_n 0), eS (.getfield 12) 5 0 33, none, none, eS (.invokevirtual 54) 26 0 129, none, none, e1 .ireturn]
set_option maxRecDepth 100000 in
def cd50 : Cd := [e1 (.iload_n 0), 
  some (.lookupswitch 183 #[(38, 149), (42, 91), (43, 83), (45, 87), (47, 95), (60, 107), (61, 121), (62, 135), (124, 166)], 83, 184, 0, 0, 0, [(38, 150), (42, 92), (43, 84), (45, 88), (47, 96), (60, 108), (61, 122), (62, 136), (124, 167)]), 
  none, none, none, none, none, none, none, none, none, none, none, none, none, none, none, none, none, none, none, none, none, none, none, none, none, none, none, none, none, none, none, none, none, none, none, none, none, 
  none, none, none, none, none, none, none, none, none, none, none, none, none, none, none, none, none, none, none, none, none, none, none, none, none, none, none, none, none, none, none, none, none, none, none, none, none, 
  none, none, none, none, none, none, none, none, e1 (.iload_n 1), e1 (.iload_n 2), e1 .iadd, e1 .ireturn, e1 (.iload_n 1), e1 (.iload_n 2), e1 .isub, e1 .ireturn, e1 (.iload_n 1), e1 (.iload_n 2), e1 .imul, e1 .ireturn, 
  e1 (.iload_n 2), eA (.ifCond .ne 7) 3 104, none, none, e1 (.iconst 0), eA (.goto 6) 3 107, none, none, e1 (.iload_n 1), e1 (.iload_n 2), e1 .idiv, e1 .ireturn, e1 (.iload_n 1), e1 (.iload_n 2), eA (.if_icmp .ge 7) 3 117, 
  none, none, eV (.iconst 1) 1 1, eA (.goto 4) 3 118, none, none, e1 (.iconst 0), eS (.invokestatic 58) 51 1 130, none, none, e1 .ireturn, e1 (.iload_n 1), e1 (.iload_n 2), eA (.if_icmp .ne 7) 3 131, none, none, 
  eV (.iconst 1) 1 1, eA (.goto 4) 3 132, none, none, e1 (.iconst 0), eS (.invokestatic 58) 51 1 130, none, none, e1 .ireturn, e1 (.iload_n 1), e1 (.iload_n 2), eA (.if_icmp .le 7) 3 145, none, none, eV (.iconst 1) 1 1, 
  eA (.goto 4) 3 146, none, none, e1 (.iconst 0), eS (.invokestatic 58) 51 1 130, none, none, e1 .ireturn, e1 (.iload_n 1), eA (.ifCond .eq 11) 3 162, none, none, e1 (.iload_n 2), eA (.ifCond .eq 7) 3 162, none, none, 
  eV (.iconst 1) 1 1, eA (.goto 4) 3 163, none, none, e1 (.iconst 0), eS (.invokestatic 58) 51 1 130, none, none, e1 .ireturn, e1 (.iload_n 1), eA (.ifCond .ne 7) 3 175, none, none, e1 (.iload_n 2), 
  eA (.ifCond .eq 7) 3 179, none, none, eV (.iconst 1) 1 1, eA (.goto 4) 3 180, none, none, e1 (.iconst 0), eS (.invokestatic 58) 51 1 130, none, none, e1 .ireturn, e1 (.iconst 0), e1 .ireturn]
set_option maxRecDepth 100000 in
def cd51 : Cd := [e1 (.iload_n 0), eA (.ifCond .eq 7) 3 8, none, none, eV (.iconst 1) 1 1, eA (.goto 4) 3 9, none, none, e1 (.iconst 0), e1 .ireturn]
set_option maxRecDepth 100000 in
def cd52 : Cd := [e1 (.aload_n 1), eG (.getfield 66) 7 1 1 13, none, none, e1 (.iload_n 2), eV (.bipush 10) 2 10, none, eS (.invokevirtual 45) 94 2 127, none, none, e2 (.istore 4), none, e1 (.aload_n 1), eG (.getfield 66) 7 1 1 13, none, 
  none, e1 (.iload_n 2), eV (.iconst 3) 1 3, eS (.invokevirtual 45) 94 2 127, none, none, e2 (.istore 5), none, e1 (.aload_n 1), eG (.getfield 66) 7 1 1 13, none, none, e1 (.iload_n 2), eV (.iconst 2) 1 2, 
  eS (.invokevirtual 45) 94 2 127, none, none, e1 (.aload_n 1), eG (.getfield 69) 7 5 5 27, none, none, e1 .isub, e2 (.istore 6), none, e1 (.iconst 0), e2 (.iload 4), none, e1 (.aload_n 0), e1 (.aload_n 1), 
  eV (.iconst 4) 1 4, e2 (.iload 4), none, e1 (.iconst 0), e1 (.iconst 0), eS (.invokevirtual 73) 48 5 134, none, none, e1 .isub, eS (.invokestatic 39) 1001 2 12, none, none, e2 (.istore 7), none, e1 (.aload_n 0), 
  e1 (.aload_n 1), eV (.iconst 2) 1 2, e2 (.iload 4), none, e2 (.iload 5), none, e1 (.iconst 0), eS (.invokevirtual 73) 48 5 134, none, none, e2 (.iload 5), none, eS (.invokestatic 33) 1002 2 11, none, none, e2 (.iload 7), 
  none, eS (.invokestatic 33) 1002 2 11, none, none, e2 (.istore 8), none, e1 (.aload_n 0), e1 (.aload_n 1), eV (.iconst 3) 1 3, e2 (.iload 4), none, e2 (.iload 6), none, e1 (.iconst 0), eS (.invokevirtual 73) 48 5 134, 
  none, none, e2 (.iload 7), none, e2 (.iload 8), none, e1 .isub, eS (.invokestatic 33) 1002 2 11, none, none, e2 (.istore 9), none, e1 (.iload_n 3), 
  some (.lookupswitch 31 #[(0, 25), (1, 28)], 25, 134, 0, 0, 0, [(0, 128), (1, 131)]), none, none, none, none, none, none, none, none, none, none, none, none, none, none, none, none, none, none, none, none, none, none, 
  none, none, e2 (.iload 8), none, e1 .ireturn, e2 (.iload 9), none, e1 .ireturn, e2 (.iload 4), none, e2 (.iload 8), none, e1 .isub, e2 (.iload 9), none, e1 .isub, e1 .ireturn]
set_option maxRecDepth 100000 in
def cd53 : Cd := [e1 (.iload_n 1), eS (.invokestatic 22) 57 1 170, none, none, eA (.ifCond .eq 23) 3 27, none, none, e1 (.iload_n 2), eV (.iconst (-1)) 1 (-1), eV (.iconst 2) 1 2, some (.invokestatic 26, 3, 156, 3, 0, 0, []), none, none, 
  eA (.ifCond .eq 14) 3 27, none, none, e1 (.iload_n 2), eV (.iconst (-1)) 1 (-1), eA (.if_icmp .eq 12) 3 30, none, none, e1 (.iload_n 3), eV (.bipush 24) 2 24, none, eA (.if_icmp .le 6) 3 30, none, none, 
  some (.ldc 30, 2, 0, 0, -1000000001, 0, [(0, 18)]), none, e1 .ireturn, e1 (.iload_n 2), eV (.iconst (-1)) 1 (-1), eA (.if_icmp .eq 10) 3 42, none, none, e1 (.iload_n 3), eA (.ifCond .ge 6) 3 42, none, none, 
  some (.ldc 31, 2, 0, 0, -1000000014, 0, [(0, 19)]), none, e1 .ireturn, e1 (.aload_n 0), eS (.getfield 11) 6 0 67, none, none, e1 (.iload_n 1), e1 (.iload_n 2), e1 .iastore, e1 (.aload_n 0), eG (.getfield 15) 6 1 1 68, 
  none, none, e1 (.iload_n 1), e1 (.iload_n 2), eV (.iconst (-1)) 1 (-1), eA (.if_icmp .ne 7) 3 63, none, none, e1 (.iconst 0), eA (.goto 4) 3 64, none, none, e1 (.iload_n 3), e1 .iastore, e1 (.iconst 0), e2 (.istore 4), 
  none, e2 (.iload 4), none, eV (.bipush 24) 2 24, none, eA (.if_icmp .ge 22) 3 94, none, none, e1 (.aload_n 0), eG (.getfield 18) 6 2 2 69, none, none, e1 (.iload_n 1), eV (.bipush 24) 2 24, none, e1 .imul, e2 (.iload 4), 
  none, e1 .iadd, e1 (.lconst 0), e1 .lastore, eV (.iinc 4 1) 3 1, none, none, eA (.goto (-23)) 3 68, none, none, e1 (.aload_n 0), eG (.getfield 15) 6 1 1 68, none, none, e1 (.iload_n 1), e1 .iaload, e1 .ireturn]
set_option maxRecDepth 100000 in
def cd54 : Cd := [e1 (.iload_n 1), eS (.invokestatic 22) 57 1 170, none, none, eA (.ifCond .ne 6) 3 10, none, none, some (.ldc 30, 2, 0, 0, -1000000001, 0, [(0, 18)]), none, e1 .ireturn, e1 (.aload_n 0), eS (.getfield 11) 6 0 67, none, 
  none, e1 (.iload_n 1), e1 .iaload, eV (.iconst (-1)) 1 (-1), eA (.if_icmp .ne 6) 3 23, none, none, some (.ldc 32, 2, 0, 0, -1000000011, 0, [(0, 20)]), none, e1 .ireturn, e1 (.aload_n 0), e1 (.iload_n 1), e1 (.iload_n 2), 
  eS (.invokevirtual 33) 58 2 173, none, none, eA (.ifCond .ne 6) 3 35, none, none, some (.ldc 37, 2, 0, 0, -1000000013, 0, [(0, 21)]), none, e1 .ireturn, e1 (.iload_n 1), eV (.bipush 24) 2 24, none, e1 .imul, 
  e1 (.iload_n 2), e1 .iadd, e2 (.istore 5), none, e1 (.aload_n 0), eG (.getfield 18) 6 2 2 69, none, none, e2 (.iload 5), none, e1 (.aload_n 0), eS (.getfield 11) 6 0 67, none, none, e1 (.iload_n 1), e1 .iaload, 
  e1 (.aload_n 0), eG (.getfield 18) 6 2 2 69, none, none, e2 (.iload 5), none, e1 .laload, e1 (.iload_n 3), e1 .i2l, e1 .lmul, e2 (.iload 4), none, e1 .i2l, e1 .ladd, eS (.invokestatic 38) 60 2 174, none, none, 
  e1 .lastore, e1 (.aload_n 0), eG (.getfield 18) 6 2 2 69, none, none, e2 (.iload 5), none, e1 .laload, e1 .l2i, e1 .ireturn]
set_option maxRecDepth 100000 in
def cd55 : Cd := [e1 (.iload_n 1), eS (.invokestatic 22) 57 1 170, none, none, eA (.ifCond .eq 10) 3 14, none, none, e1 (.iload_n 3), eS (.invokestatic 22) 57 1 170, none, none, eA (.ifCond .ne 6) 3 17, none, none, 
  some (.ldc 30, 2, 0, 0, -1000000001, 0, [(0, 18)]), none, e1 .ireturn, e1 (.aload_n 0), eS (.getfield 11) 6 0 67, none, none, e1 (.iload_n 1), e1 .iaload, eV (.iconst (-1)) 1 (-1), eA (.if_icmp .eq 13) 3 37, none, none, 
  e1 (.aload_n 0), eS (.getfield 11) 6 0 67, none, none, e1 (.iload_n 3), e1 .iaload, eV (.iconst (-1)) 1 (-1), eA (.if_icmp .ne 6) 3 40, none, none, some (.ldc 32, 2, 0, 0, -1000000011, 0, [(0, 20)]), none, e1 .ireturn, 
  e1 (.aload_n 0), eS (.getfield 11) 6 0 67, none, none, e1 (.iload_n 1), e1 .iaload, e1 (.aload_n 0), eS (.getfield 11) 6 0 67, none, none, e1 (.iload_n 3), e1 .iaload, eA (.if_icmp .eq 6) 3 58, none, none, 
  some (.ldc 42, 2, 0, 0, -1000000012, 0, [(0, 22)]), none, e1 .ireturn, e1 (.aload_n 0), e1 (.iload_n 1), e1 (.iload_n 2), e2 (.iload 5), none, eS (.invokevirtual 43) 59 3 178, none, none, eA (.ifCond .eq 15) 3 81, none, 
  none, e1 (.aload_n 0), e1 (.iload_n 3), e2 (.iload 4), none, e2 (.iload 5), none, eS (.invokevirtual 43) 59 3 178, none, none, eA (.ifCond .ne 6) 3 84, none, none, some (.ldc 37, 2, 0, 0, -1000000013, 0, [(0, 21)]), none, 
  e1 .ireturn, e1 (.aload_n 0), eG (.getfield 18) 6 2 2 69, none, none, e1 (.iload_n 1), eV (.bipush 24) 2 24, none, e1 .imul, e1 (.iload_n 2), e1 .iadd, e1 (.aload_n 0), eG (.getfield 18) 6 2 2 69, none, none, 
  e1 (.iload_n 3), eV (.bipush 24) 2 24, none, e1 .imul, e2 (.iload 4), none, e1 .iadd, e2 (.iload 5), none, eS (.invokestatic 46) 1003 5 17, none, none, e2 (.iload 5), none, e1 .ireturn]
set_option maxRecDepth 100000 in
def cd56 : Cd := [e1 (.iload_n 1), eA (.ifCond .ge 6) 3 7, none, none, some (.ldc 30, 2, 0, 0, -1000000001, 0, [(0, 18)]), none, e1 .ireturn, some (.ldc 52, 2, 0, 0, -1000000005, 0, [(0, 23)]), none, e1 (.istore_n 2), e1 (.iconst 0), 
  e1 (.istore_n 3), e1 (.iconst 0), e2 (.istore 4), none, e2 (.iload 4), none, eV (.iconst 4) 1 4, eA (.if_icmp .ge 67) 3 85, none, none, e1 (.aload_n 0), e2 (.iload 4), none, e1 (.iload_n 1), 
  eS (.invokevirtual 33) 58 2 173, none, none, eA (.ifCond .eq 51) 3 79, none, none, e1 (.iload_n 2), some (.ldc 52, 2, 0, 0, -1000000005, 0, [(0, 23)]), none, eA (.if_icmp .ne 8) 3 42, none, none, e2 (.iload 4), none, 
  eA (.goto 4) 3 43, none, none, e1 (.iload_n 2), e1 (.istore_n 2), e1 (.iload_n 3), e1 (.aload_n 0), eG (.getfield 18) 6 2 2 69, none, none, e2 (.iload 4), none, eV (.bipush 24) 2 24, none, e1 .imul, e1 (.iload_n 1), 
  e1 .iadd, e1 .laload, e1 (.aload_n 0), eG (.getfield 18) 6 2 2 69, none, none, e1 (.iload_n 2), eV (.bipush 24) 2 24, none, e1 .imul, e1 (.iload_n 1), e1 .iadd, e1 .laload, e1 .lcmp, eA (.ifCond .ne 7) 3 76, none, none, 
  e1 (.iconst 0), eA (.goto 4) 3 77, none, none, eV (.iconst 1) 1 1, e1 .iadd, e1 (.istore_n 3), eV (.iinc 4 1) 3 1, none, none, eA (.goto (-67)) 3 15, none, none, e1 (.iload_n 2), 
  some (.ldc 52, 2, 0, 0, -1000000005, 0, [(0, 23)]), none, eA (.if_icmp .ne 8) 3 96, none, none, some (.ldc 52, 2, 0, 0, -1000000005, 0, [(0, 23)]), none, eA (.goto 4) 3 97, none, none, e1 (.iload_n 3), e1 .ireturn]
set_option maxRecDepth 100000 in
def cd57 : Cd := [e1 (.iload_n 0), eA (.ifCond .lt 12) 3 13, none, none, e1 (.iload_n 0), eV (.iconst 4) 1 4, eA (.if_icmp .ge 7) 3 13, none, none, eV (.iconst 1) 1 1, eA (.goto 4) 3 14, none, none, e1 (.iconst 0), e1 .ireturn]
set_option maxRecDepth 100000 in
def cd58 : Cd := [e1 (.iload_n 2), eA (.ifCond .lt 17) 3 18, none, none, e1 (.iload_n 2), e1 (.aload_n 0), eG (.getfield 15) 6 1 1 68, none, none, e1 (.iload_n 1), e1 .iaload, eA (.if_icmp .ge 7) 3 18, none, none, eV (.iconst 1) 1 1, 
  eA (.goto 4) 3 19, none, none, e1 (.iconst 0), e1 .ireturn]
set_option maxRecDepth 100000 in
def cd59 : Cd := [e1 (.iload_n 2), eA (.ifCond .lt 33) 3 34, none, none, e1 (.iload_n 3), eA (.ifCond .lt 29) 3 34, none, none, e1 (.iload_n 3), e1 (.aload_n 0), eG (.getfield 15) 6 1 1 68, none, none, e1 (.iload_n 1), e1 .iaload, 
  eA (.if_icmp .gt 19) 3 34, none, none, e1 (.iload_n 2), e1 (.aload_n 0), eG (.getfield 15) 6 1 1 68, none, none, e1 (.iload_n 1), e1 .iaload, e1 (.iload_n 3), e1 .isub, eA (.if_icmp .gt 7) 3 34, none, none, 
  eV (.iconst 1) 1 1, eA (.goto 4) 3 35, none, none, e1 (.iconst 0), e1 .ireturn]
set_option maxRecDepth 100000 in
def cd60 : Cd := [e1 (.iload_n 0), some (.lookupswitch 37 #[(0, 27), (1, 32)], 27, 38, 0, 0, 0, [(0, 28), (1, 33)]), none, none, none, none, none, none, none, none, none, none, none, none, none, none, none, none, none, none, none, none, 
  none, none, none, none, none, none, e1 (.lload_n 1), e1 .l2i, e1 .i2b, e1 .i2l, e1 .lreturn, e1 (.lload_n 1), e1 .l2i, e1 .i2s, e1 .i2l, e1 .lreturn, e1 (.lload_n 1), e1 .lreturn]
set_option maxRecDepth 100000 in
def cd61 : Cd := [e1 (.aload_n 1), eA (.ifnonnull 4) 3 5, none, none, e1 .return_, e1 (.aload_n 0), eS (.getfield 14) 7 0 4, none, none, e1 (.aload_n 1), eS (.getfield 14) 7 0 4, none, none, eS (.invokevirtual 39) 99 1 184, none, none, 
  e1 (.aload_n 0), eG (.getfield 20) 7 1 1 9, none, none, e1 (.aload_n 1), eG (.getfield 20) 7 1 1 9, none, none, eS (.invokevirtual 39) 99 1 184, none, none, e1 (.aload_n 0), eG (.getfield 23) 7 2 2 15, none, none, 
  e1 (.aload_n 1), eG (.getfield 23) 7 2 2 15, none, none, eS (.invokevirtual 39) 99 1 184, none, none, e1 (.aload_n 0), eG (.getfield 26) 7 3 3 19, none, none, e1 (.aload_n 1), eG (.getfield 26) 7 3 3 19, none, none, 
  eS (.invokevirtual 39) 99 1 184, none, none, e1 (.aload_n 0), eG (.getfield 29) 7 4 4 22, none, none, e1 (.aload_n 1), eG (.getfield 29) 7 4 4 22, none, none, eS (.invokevirtual 39) 99 1 184, none, none, e1 (.aload_n 0), 
  e1 (.aload_n 1), eG (.getfield 32) 7 5 5 24, none, none, eG (.putfield 32) 7 5 5 24, none, none, e1 (.aload_n 0), e1 (.aload_n 1), eG (.getfield 36) 7 6 6 29, none, none, eG (.putfield 36) 7 6 6 29, none, none, 
  e1 .return_]
set_option maxRecDepth 100000 in
def cd62 : Cd := [e1 (.aload_n 0), eG (.getfield 20) 7 1 1 9, none, none, e1 (.iload_n 1), eV (.bipush 11) 2 11, none, eS (.invokevirtual 43) 94 2 14, none, none, eV (.iconst 1) 1 1, eA (.if_icmp .ne 7) 3 18, none, none, 
  eV (.iconst 1) 1 1, eA (.goto 4) 3 19, none, none, e1 (.iconst 0), e1 .ireturn]
set_option maxRecDepth 100000 in
def cd63 : Cd := [e1 (.iconst 0), e1 (.istore_n 1), e1 (.iconst 0), e1 (.istore_n 2), e1 (.iload_n 2), e1 (.aload_n 0), eG (.getfield 20) 7 1 1 9, none, none, eS (.invokevirtual 47) 91 0 13, none, none, eA (.if_icmp .ge 27) 3 39, none, 
  none, e1 (.iload_n 1), e1 (.aload_n 0), e1 (.iload_n 2), eS (.invokevirtual 51) 62 1 29, none, none, eA (.ifCond .eq 7) 3 28, none, none, e1 (.iconst 0), eA (.goto 6) 3 31, none, none, eV (.iconst 1) 1 1, e1 (.iload_n 2), 
  e1 .ishl, e1 .ior, e1 (.istore_n 1), eV (.iinc 2 1) 3 1, none, none, eA (.goto (-32)) 3 4, none, none, e1 (.iload_n 1), e1 .ireturn]
set_option maxRecDepth 100000 in
def cd64 : Cd := [e1 (.aload_n 0), eG (.getfield 20) 7 1 1 9, none, none, e1 (.iload_n 1), eV (.bipush 12) 2 12, none, eS (.invokevirtual 43) 94 2 14, none, none, e1 (.iload_n 2), e1 .ishr, eV (.iconst 1) 1 1, e1 .iand, eV (.iconst 1) 1 1, 
  eA (.if_icmp .ne 7) 3 22, none, none, eV (.iconst 1) 1 1, eA (.goto 4) 3 23, none, none, e1 (.iconst 0), e1 .ireturn]
set_option maxRecDepth 100000 in
def cd65 : Cd := [eV (.iconst 1) 1 1, e1 (.iload_n 2), e1 .ishl, e2 (.istore 4), none, e1 (.aload_n 0), eG (.getfield 20) 7 1 1 9, none, none, e1 (.iload_n 1), eV (.bipush 12) 2 12, none, eS (.invokevirtual 43) 94 2 14, none, none, 
  e2 (.istore 5), none, e1 (.aload_n 0), eG (.getfield 20) 7 1 1 9, none, none, e1 (.iload_n 1), eV (.bipush 12) 2 12, none, e1 (.iload_n 3), eA (.ifCond .eq 11) 3 36, none, none, e2 (.iload 5), none, e2 (.iload 4), none, 
  e1 .ior, eA (.goto 10) 3 43, none, none, e2 (.iload 5), none, e2 (.iload 4), none, eV (.iconst (-1)) 1 (-1), e1 .ixor, e1 .iand, eS (.invokevirtual 55) 95 3 26, none, none, e1 .return_]
set_option maxRecDepth 100000 in
def cd66 : Cd := [e1 (.aload_n 0), e1 (.iload_n 1), eS (.invokevirtual 51) 62 1 29, none, none, eA (.ifCond .ne 78) 3 83, none, none, e1 (.aload_n 0), eG (.getfield 20) 7 1 1 9, none, none, e1 (.iload_n 1), e1 (.iconst 0), 
  eS (.invokevirtual 43) 94 2 14, none, none, e1 (.aload_n 0), eS (.getfield 14) 7 0 4, none, none, e1 (.iload_n 2), eV (.iconst 1) 1 1, eS (.invokevirtual 43) 94 2 14, none, none, eA (.if_icmp .gt 57) 3 83, none, none, 
  e1 (.aload_n 0), eG (.getfield 20) 7 1 1 9, none, none, e1 (.iload_n 1), eV (.iconst 1) 1 1, eS (.invokevirtual 43) 94 2 14, none, none, e1 (.aload_n 0), eS (.getfield 14) 7 0 4, none, none, e1 (.iload_n 2), 
  eV (.iconst 2) 1 2, eS (.invokevirtual 43) 94 2 14, none, none, eA (.if_icmp .lt 36) 3 83, none, none, e1 (.aload_n 0), eG (.getfield 20) 7 1 1 9, none, none, e1 (.iload_n 1), eV (.bipush 9) 2 9, none, 
  eS (.invokevirtual 43) 94 2 14, none, none, e1 (.aload_n 0), eG (.getfield 32) 7 5 5 24, none, none, eA (.if_icmp .eq 19) 3 83, none, none, e1 (.aload_n 0), eS (.getfield 14) 7 0 4, none, none, e1 (.iload_n 2), 
  eV (.iconst 4) 1 4, eS (.invokevirtual 43) 94 2 14, none, none, eA (.ifCond .ne 7) 3 83, none, none, eV (.iconst 1) 1 1, eA (.goto 4) 3 84, none, none, e1 (.iconst 0), e1 .ireturn]
set_option maxRecDepth 100000 in
def cd67 : Cd := [e1 (.iconst 0), e1 (.istore_n 2), e1 (.iconst 0), e1 (.istore_n 3), e1 (.iload_n 3), e1 (.aload_n 0), eG (.getfield 20) 7 1 1 9, none, none, eS (.invokevirtual 47) 91 0 13, none, none, eA (.if_icmp .ge 33) 3 45, none, 
  none, e1 (.iload_n 2), e1 (.aload_n 0), eG (.getfield 20) 7 1 1 9, none, none, e1 (.iload_n 3), eV (.bipush 8) 2 8, none, eS (.invokevirtual 43) 94 2 14, none, none, e1 (.iload_n 1), eA (.if_icmp .ne 9) 3 36, none, none, 
  eV (.iconst 1) 1 1, e1 (.iload_n 3), e1 .ishl, eA (.goto 4) 3 37, none, none, e1 (.iconst 0), e1 .ior, e1 (.istore_n 2), eV (.iinc 3 1) 3 1, none, none, eA (.goto (-38)) 3 4, none, none, e1 (.iload_n 2), e1 .ireturn]
set_option maxRecDepth 100000 in
def cd68 : Cd := [e1 (.aload_n 0), e1 (.iload_n 2), eS (.invokevirtual 59) 67 1 32, none, none, eV (.iconst 1) 1 1, e1 (.iload_n 1), e1 .ishl, eV (.iconst (-1)) 1 (-1), e1 .ixor, e1 .iand, e1 (.istore_n 3), e1 (.iload_n 3), 
  eS (.invokestatic 63) 265 1 33, none, none, e1 (.aload_n 0), eS (.getfield 14) 7 0 4, none, none, e1 (.iload_n 2), e1 (.iconst 0), eS (.invokevirtual 43) 94 2 14, none, none, eA (.if_icmp .ge 22) 3 47, none, none, 
  e1 (.iload_n 3), e1 (.aload_n 0), eG (.getfield 20) 7 1 1 9, none, none, e1 (.iload_n 1), eV (.bipush 12) 2 12, none, eS (.invokevirtual 43) 94 2 14, none, none, e1 .iand, eA (.ifCond .ne 7) 3 47, none, none, 
  eV (.iconst 1) 1 1, eA (.goto 4) 3 48, none, none, e1 (.iconst 0), e1 .ireturn]
set_option maxRecDepth 100000 in
def cd69 : Cd := [e1 (.aload_n 0), eG (.getfield 20) 7 1 1 9, none, none, e1 (.iload_n 1), eV (.bipush 8) 2 8, none, eS (.invokevirtual 43) 94 2 14, none, none, e1 (.iload_n 2), eA (.if_icmp .eq 20) 3 31, none, none, e1 (.aload_n 0), 
  e1 (.iload_n 1), e1 (.iconst 0), eS (.invokevirtual 68) 70 2 35, none, none, e1 (.aload_n 0), eG (.getfield 20) 7 1 1 9, none, none, e1 (.iload_n 1), eV (.bipush 8) 2 8, none, e1 (.iload_n 2), 
  eS (.invokevirtual 55) 95 3 26, none, none, e1 .return_]
set_option maxRecDepth 100000 in
def cd70 : Cd := [e1 (.iconst 0), e1 (.istore_n 3), e1 (.iload_n 3), e1 (.aload_n 0), eG (.getfield 23) 7 2 2 15, none, none, eS (.invokevirtual 47) 91 0 13, none, none, eA (.if_icmp .ge 39) 3 49, none, none, e1 (.aload_n 0), 
  e1 (.iload_n 3), e1 (.iload_n 1), eS (.invokevirtual 71) 71 2 36, none, none, eA (.ifCond .eq 24) 3 43, none, none, e1 (.aload_n 0), eG (.getfield 23) 7 2 2 15, none, none, e1 (.iload_n 3), eV (.iconst 4) 1 4, 
  e1 (.iload_n 2), eS (.invokevirtual 55) 95 3 26, none, none, e1 (.aload_n 0), eG (.getfield 23) 7 2 2 15, none, none, e1 (.iload_n 3), eV (.iconst 5) 1 5, some (.ldc 75, 2, 0, 0, -1000000005, 0, [(0, 7)]), none, 
  eS (.invokevirtual 55) 95 3 26, none, none, eV (.iinc 3 1) 3 1, none, none, eA (.goto (-44)) 3 2, none, none, e1 .return_]
set_option maxRecDepth 100000 in
def cd71 : Cd := [e1 (.aload_n 0), eG (.getfield 23) 7 2 2 15, none, none, e1 (.iload_n 1), eV (.iconst 4) 1 4, eS (.invokevirtual 43) 94 2 14, none, none, eV (.iconst 1) 1 1, eA (.if_icmp .ne 20) 3 30, none, none, e1 (.aload_n 0), 
  eG (.getfield 23) 7 2 2 15, none, none, e1 (.iload_n 1), eV (.iconst 5) 1 5, eS (.invokevirtual 43) 94 2 14, none, none, e1 (.iload_n 2), eA (.if_icmp .ne 7) 3 30, none, none, eV (.iconst 1) 1 1, eA (.goto 4) 3 31, none, 
  none, e1 (.iconst 0), e1 .ireturn]
set_option maxRecDepth 100000 in
def cd72 : Cd := [e1 (.iconst 0), e1 (.istore_n 2), e1 (.iconst 0), e1 (.istore_n 3), e1 (.iload_n 3), e1 (.aload_n 0), eG (.getfield 23) 7 2 2 15, none, none, eS (.invokevirtual 47) 91 0 13, none, none, eA (.if_icmp .ge 26) 3 38, none, 
  none, e1 (.iload_n 2), e1 (.aload_n 0), e1 (.iload_n 3), e1 (.iload_n 1), eS (.invokevirtual 71) 71 2 36, none, none, eA (.ifCond .eq 7) 3 29, none, none, eV (.iconst 1) 1 1, eA (.goto 4) 3 30, none, none, e1 (.iconst 0), 
  e1 .iadd, e1 (.istore_n 2), eV (.iinc 3 1) 3 1, none, none, eA (.goto (-31)) 3 4, none, none, e1 (.iload_n 2), e1 .ireturn]
set_option maxRecDepth 100000 in
def cd73 : Cd := [e1 (.iconst 0), e1 (.istore_n 1), e1 (.iconst 0), e1 (.istore_n 2), e1 (.iload_n 2), e1 (.aload_n 0), eG (.getfield 20) 7 1 1 9, none, none, eS (.invokevirtual 47) 91 0 13, none, none, eA (.if_icmp .ge 32) 3 44, none, 
  none, e1 (.iload_n 1), e1 (.aload_n 0), eG (.getfield 20) 7 1 1 9, none, none, e1 (.iload_n 2), eV (.bipush 8) 2 8, none, eS (.invokevirtual 43) 94 2 14, none, none, some (.ldc 75, 2, 0, 0, -1000000005, 0, [(0, 7)]), 
  none, eA (.if_icmp .ne 7) 3 35, none, none, e1 (.iconst 0), eA (.goto 4) 3 36, none, none, eV (.iconst 1) 1 1, e1 .iadd, e1 (.istore_n 1), eV (.iinc 2 1) 3 1, none, none, eA (.goto (-37)) 3 4, none, none, e1 (.iload_n 1), 
  e1 .ireturn]
set_option maxRecDepth 100000 in
def cd74 : Cd := [e1 (.aload_n 0), eG (.getfield 23) 7 2 2 15, none, none, e1 (.iload_n 1), e1 (.iconst 0), eS (.invokevirtual 43) 94 2 14, none, none, e1 (.istore_n 3), e1 (.iconst 0), e2 (.istore 4), none, e2 (.iload 4), none, 
  eV (.bipush 6) 2 6, none, eA (.if_icmp .ge 34) 3 51, none, none, e1 (.iload_n 3), eA (.ifCond .lt 30) 3 51, none, none, e1 (.iload_n 3), eA (.getstatic 76) 3 1200, none, none, e1 .arraylength, eA (.if_icmp .ge 22) 3 51, 
  none, none, e1 (.iload_n 3), e1 (.iload_n 2), eA (.if_icmp .ne 5) 3 39, none, none, eV (.iconst 1) 1 1, e1 .ireturn, eA (.getstatic 76) 3 1200, none, none, e1 (.iload_n 3), e1 .iaload, e1 (.istore_n 3), 
  eV (.iinc 4 1) 3 1, none, none, eA (.goto (-35)) 3 13, none, none, e1 (.iconst 0), e1 .ireturn]
set_option maxRecDepth 100000 in
def cd75 : Cd := [e1 (.aload_n 0), eG (.getfield 23) 7 2 2 15, none, none, e1 (.iload_n 1), eV (.iconst 1) 1 1, eS (.invokevirtual 43) 94 2 14, none, none, e1 (.iload_n 2), eA (.if_icmp .ne 16) 3 26, none, none, e1 (.aload_n 0), 
  e1 (.iload_n 1), eV (.iconst 1) 1 1, eS (.invokevirtual 80) 74 2 17, none, none, eA (.ifCond .eq 7) 3 26, none, none, eV (.iconst 1) 1 1, eA (.goto 4) 3 27, none, none, e1 (.iconst 0), e1 .ireturn]
set_option maxRecDepth 100000 in
def cd76 : Cd := [e1 (.iconst 0), e1 (.istore_n 3), e1 (.iconst 0), e2 (.istore 4), none, e2 (.iload 4), none, e1 (.aload_n 0), eG (.getfield 23) 7 2 2 15, none, none, eS (.invokevirtual 47) 91 0 13, none, none, eA (.if_icmp .ge 79) 3 93, 
  none, none, e1 (.iload_n 1), some (.ldc 75, 2, 0, 0, -1000000005, 0, [(0, 7)]), none, eA (.if_icmp .eq 17) 3 37, none, none, e1 (.aload_n 0), eG (.getfield 23) 7 2 2 15, none, none, e2 (.iload 4), none, 
  eV (.iconst 1) 1 1, eS (.invokevirtual 43) 94 2 14, none, none, e1 (.iload_n 1), eA (.if_icmp .ne 27) 3 61, none, none, e1 (.iload_n 2), some (.ldc 75, 2, 0, 0, -1000000005, 0, [(0, 7)]), none, eA (.if_icmp .eq 17) 3 57, 
  none, none, e1 (.aload_n 0), eG (.getfield 23) 7 2 2 15, none, none, e2 (.iload 4), none, eV (.iconst 4) 1 4, eS (.invokevirtual 43) 94 2 14, none, none, e1 (.iload_n 2), eA (.if_icmp .ne 7) 3 61, none, none, 
  eV (.iconst 1) 1 1, eA (.goto 4) 3 62, none, none, e1 (.iconst 0), e2 (.istore 5), none, e1 (.iload_n 3), e2 (.iload 5), none, eA (.ifCond .eq 17) 3 84, none, none, e1 (.aload_n 0), e2 (.iload 4), none, 
  eV (.iconst 1) 1 1, eS (.invokevirtual 80) 74 2 17, none, none, eA (.ifCond .eq 7) 3 84, none, none, eV (.iconst 1) 1 1, eA (.goto 4) 3 85, none, none, e1 (.iconst 0), e1 .iadd, e1 (.istore_n 3), eV (.iinc 4 1) 3 1, none, 
  none, eA (.goto (-85)) 3 5, none, none, e1 (.iload_n 3), e1 .ireturn]
set_option maxRecDepth 100000 in
def cd77 : Cd := [e1 (.aload_n 0), eG (.getfield 23) 7 2 2 15, none, none, e1 (.iload_n 2), eV (.iconst 1) 1 1, eS (.invokevirtual 43) 94 2 14, none, none, e1 (.istore_n 3), e1 (.aload_n 0), eG (.getfield 23) 7 2 2 15, none, none, 
  e1 (.iload_n 2), eV (.iconst 4) 1 4, eS (.invokevirtual 43) 94 2 14, none, none, eA (.ifCond .ne 76) 3 95, none, none, e1 (.aload_n 0), eG (.getfield 20) 7 1 1 9, none, none, e1 (.iload_n 1), eV (.bipush 8) 2 8, none, 
  eS (.invokevirtual 43) 94 2 14, none, none, e1 (.iload_n 3), eA (.if_icmp .ne 62) 3 95, none, none, e1 (.aload_n 0), eS (.getfield 14) 7 0 4, none, none, e1 (.iload_n 3), eV (.bipush 7) 2 7, none, 
  eS (.invokevirtual 43) 94 2 14, none, none, eA (.ifCond .ne 49) 3 95, none, none, e1 (.aload_n 0), eS (.getfield 14) 7 0 4, none, none, e1 (.iload_n 3), eV (.iconst 4) 1 4, eS (.invokevirtual 43) 94 2 14, none, none, 
  eA (.ifCond .ne 37) 3 95, none, none, e1 (.aload_n 0), e1 (.iload_n 2), eV (.iconst 2) 1 2, eS (.invokevirtual 80) 74 2 17, none, none, eA (.ifCond .eq 24) 3 91, none, none, e1 (.aload_n 0), eG (.getfield 20) 7 1 1 9, 
  none, none, e1 (.iload_n 1), e1 (.iconst 0), eS (.invokevirtual 43) 94 2 14, none, none, e1 (.aload_n 0), eG (.getfield 23) 7 2 2 15, none, none, e1 (.iload_n 2), eV (.iconst 2) 1 2, eS (.invokevirtual 43) 94 2 14, none, 
  none, eA (.if_icmp .gt 7) 3 95, none, none, eV (.iconst 1) 1 1, eA (.goto 4) 3 96, none, none, e1 (.iconst 0), e1 .ireturn]
set_option maxRecDepth 100000 in
def cd78 : Cd := [e1 (.aload_n 0), eG (.getfield 23) 7 2 2 15, none, none, e1 (.iload_n 1), eV (.iconst 4) 1 4, eS (.invokevirtual 43) 94 2 14, none, none, e1 (.istore_n 3), e1 (.iload_n 3), eA (.ifCond .ne 11) 3 22, none, none, 
  e1 (.iload_n 2), eA (.ifCond .ne 7) 3 22, none, none, eV (.iconst 1) 1 1, eA (.goto 4) 3 23, none, none, e1 (.iconst 0), e2 (.istore 4), none, e2 (.iload 4), none, eA (.ifCond .eq 27) 3 54, none, none, e1 (.aload_n 0), 
  eG (.getfield 23) 7 2 2 15, none, none, e1 (.iload_n 1), eV (.bipush 7) 2 7, none, eS (.invokevirtual 43) 94 2 14, none, none, eV (.iconst 1) 1 1, eA (.if_icmp .ne 13) 3 54, none, none, e1 (.aload_n 0), 
  eG (.getfield 23) 7 2 2 15, none, none, e1 (.iload_n 1), eV (.iconst 4) 1 4, eV (.iconst 2) 1 2, eS (.invokevirtual 55) 95 3 26, none, none, e1 (.aload_n 0), eG (.getfield 23) 7 2 2 15, none, none, e1 (.iload_n 1), 
  eV (.bipush 7) 2 7, none, e2 (.iload 4), none, eA (.ifCond .eq 7) 3 70, none, none, eV (.iconst 1) 1 1, eA (.goto 4) 3 71, none, none, e1 (.iconst 0), eS (.invokevirtual 55) 95 3 26, none, none, e2 (.iload 4), none, 
  eA (.ifCond .ne 16) 3 92, none, none, e1 (.iload_n 3), eV (.iconst 1) 1 1, eA (.if_icmp .ne 7) 3 88, none, none, e1 (.iload_n 2), eA (.ifCond .ne 7) 3 92, none, none, eV (.iconst 1) 1 1, eA (.goto 4) 3 93, none, none, 
  e1 (.iconst 0), e1 .ireturn]
set_option maxRecDepth 100000 in
def cd79 : Cd := [e1 (.aload_n 0), eG (.getfield 23) 7 2 2 15, none, none, e1 (.iload_n 1), eV (.bipush 6) 2 6, none, eS (.invokevirtual 43) 94 2 14, none, none, some (.ldc 75, 2, 0, 0, -1000000005, 0, [(0, 7)]), none, 
  eA (.if_icmp .ne 16) 3 28, none, none, e1 (.aload_n 0), e1 (.iload_n 1), eV (.iconst 5) 1 5, eS (.invokevirtual 80) 74 2 17, none, none, eA (.ifCond .eq 7) 3 28, none, none, eV (.iconst 1) 1 1, eA (.goto 4) 3 29, none, 
  none, e1 (.iconst 0), e1 .ireturn]
set_option maxRecDepth 100000 in
def cd80 : Cd := [e1 (.iconst 0), e1 (.istore_n 1), e1 (.iconst 0), e1 (.istore_n 2), e1 (.iload_n 2), e1 (.aload_n 0), eG (.getfield 23) 7 2 2 15, none, none, eS (.invokevirtual 47) 91 0 13, none, none, eA (.if_icmp .ge 25) 3 37, none, 
  none, e1 (.iload_n 1), e1 (.aload_n 0), e1 (.iload_n 2), eS (.invokevirtual 83) 79 1 76, none, none, eA (.ifCond .eq 7) 3 28, none, none, eV (.iconst 1) 1 1, eA (.goto 4) 3 29, none, none, e1 (.iconst 0), e1 .iadd, 
  e1 (.istore_n 1), eV (.iinc 2 1) 3 1, none, none, eA (.goto (-30)) 3 4, none, none, e1 (.iload_n 1), e1 .ireturn]
set_option maxRecDepth 100000 in
def cd81 : Cd := [some (.ldc 75, 2, 0, 0, -1000000005, 0, [(0, 7)]), none, e1 (.istore_n 3), e1 (.iconst 0), e2 (.istore 4), none, e2 (.iload 4), none, e1 (.aload_n 0), eG (.getfield 23) 7 2 2 15, none, none, 
  eS (.invokevirtual 47) 91 0 13, none, none, eA (.if_icmp .ge 67) 3 82, none, none, e1 (.aload_n 0), eG (.getfield 23) 7 2 2 15, none, none, e2 (.iload 4), none, eV (.iconst 1) 1 1, eS (.invokevirtual 43) 94 2 14, none, 
  none, e1 (.iload_n 1), eA (.if_icmp .ne 47) 3 76, none, none, e1 (.aload_n 0), e2 (.iload 4), none, eS (.invokevirtual 83) 79 1 76, none, none, eA (.ifCond .eq 38) 3 76, none, none, e1 (.iload_n 2), 
  some (.ldc 75, 2, 0, 0, -1000000005, 0, [(0, 7)]), none, eA (.if_icmp .eq 13) 3 57, none, none, e1 (.aload_n 0), e1 (.iload_n 2), e2 (.iload 4), none, eS (.invokevirtual 86) 82 2 77, none, none, eA (.ifCond .eq 22) 3 76, 
  none, none, e1 (.iload_n 3), some (.ldc 75, 2, 0, 0, -1000000005, 0, [(0, 7)]), none, eA (.if_icmp .eq 13) 3 73, none, none, e1 (.aload_n 0), e2 (.iload 4), none, e1 (.iload_n 3), eS (.invokevirtual 86) 82 2 77, none, 
  none, eA (.ifCond .eq 6) 3 76, none, none, e2 (.iload 4), none, e1 (.istore_n 3), eV (.iinc 4 1) 3 1, none, none, eA (.goto (-73)) 3 6, none, none, e1 (.iload_n 3), e1 .ireturn]
set_option maxRecDepth 100000 in
def cd82 : Cd := [e1 (.aload_n 0), eG (.getfield 23) 7 2 2 15, none, none, e1 (.iload_n 1), eV (.iconst 3) 1 3, eS (.invokevirtual 43) 94 2 14, none, none, e1 (.istore_n 3), e1 (.aload_n 0), eG (.getfield 23) 7 2 2 15, none, none, 
  e1 (.iload_n 2), eV (.iconst 3) 1 3, eS (.invokevirtual 43) 94 2 14, none, none, e2 (.istore 4), none, e1 (.iload_n 3), e2 (.iload 4), none, eA (.if_icmp .lt 14) 3 38, none, none, e1 (.iload_n 3), e2 (.iload 4), none, 
  eA (.if_icmp .ne 12) 3 42, none, none, e1 (.iload_n 1), e1 (.iload_n 2), eA (.if_icmp .ge 7) 3 42, none, none, eV (.iconst 1) 1 1, eA (.goto 4) 3 43, none, none, e1 (.iconst 0), e1 .ireturn]
set_option maxRecDepth 100000 in
def cd83 : Cd := [some (.ldc 75, 2, 0, 0, -1000000005, 0, [(0, 7)]), none, e1 (.istore_n 2), e1 (.iconst 0), e1 (.istore_n 3), e1 (.iload_n 3), e1 (.aload_n 0), eG (.getfield 26) 7 3 3 19, none, none, eS (.invokevirtual 47) 91 0 13, none, 
  none, eA (.if_icmp .ge 64) 3 77, none, none, e1 (.aload_n 0), eG (.getfield 26) 7 3 3 19, none, none, e1 (.iload_n 3), eV (.iconst 1) 1 1, eS (.invokevirtual 43) 94 2 14, none, none, e2 (.istore 4), none, e1 (.aload_n 0), 
  eG (.getfield 26) 7 3 3 19, none, none, e1 (.iload_n 3), e1 (.iconst 0), eS (.invokevirtual 43) 94 2 14, none, none, e1 (.iload_n 1), eA (.if_icmp .ne 34) 3 71, none, none, e2 (.iload 4), none, e1 (.aload_n 0), 
  eG (.getfield 32) 7 5 5 24, none, none, eA (.if_icmp .gt 25) 3 71, none, none, e1 (.iload_n 2), some (.ldc 75, 2, 0, 0, -1000000005, 0, [(0, 7)]), none, eA (.if_icmp .eq 17) 3 69, none, none, e2 (.iload 4), none, 
  e1 (.aload_n 0), eG (.getfield 26) 7 3 3 19, none, none, e1 (.iload_n 2), eV (.iconst 1) 1 1, eS (.invokevirtual 43) 94 2 14, none, none, eA (.if_icmp .lt 5) 3 71, none, none, e1 (.iload_n 3), e1 (.istore_n 2), 
  eV (.iinc 3 1) 3 1, none, none, eA (.goto (-69)) 3 5, none, none, e1 (.iload_n 2), e1 .ireturn]
set_option maxRecDepth 100000 in
def cd84 : Cd := [e1 (.aload_n 0), eG (.getfield 20) 7 1 1 9, none, none, e1 (.iload_n 1), e1 (.iload_n 2), some (.ldc 89, 2, 0, 0, 99999, 0, [(0, 14)]), none, e1 (.aload_n 0), eG (.getfield 20) 7 1 1 9, none, none, e1 (.iload_n 1), 
  e1 (.iload_n 2), eS (.invokevirtual 43) 94 2 14, none, none, e1 (.iload_n 3), e1 .iadd, eS (.invokestatic 90) 1002 2 13, none, none, eS (.invokevirtual 55) 95 3 26, none, none, e1 .return_]
set_option maxRecDepth 100000 in
def cd85 : Cd := [e1 (.aload_n 0), eG (.getfield 29) 7 4 4 22, none, none, eS (.invokevirtual 95) 98 0 140, none, none, e1 (.istore_n 3), e1 (.aload_n 0), eG (.getfield 29) 7 4 4 22, none, none, e1 (.iload_n 3), e1 (.iconst 0), 
  e1 (.iload_n 1), eS (.invokevirtual 55) 95 3 26, none, none, e1 (.aload_n 0), eG (.getfield 29) 7 4 4 22, none, none, e1 (.iload_n 3), eV (.iconst 1) 1 1, e1 (.iload_n 2), eS (.invokevirtual 55) 95 3 26, none, none, 
  e1 (.aload_n 0), eG (.getfield 29) 7 4 4 22, none, none, e1 (.iload_n 3), eV (.iconst 2) 1 2, e1 (.aload_n 0), eG (.getfield 32) 7 5 5 24, none, none, eS (.invokevirtual 55) 95 3 26, none, none, e1 (.aload_n 0), 
  eG (.getfield 29) 7 4 4 22, none, none, e1 (.iload_n 3), eV (.iconst 3) 1 3, some (.ldc 75, 2, 0, 0, -1000000005, 0, [(0, 7)]), none, eS (.invokevirtual 55) 95 3 26, none, none, e1 (.iload_n 3), e1 .ireturn]
set_option maxRecDepth 100000 in
def cd86 : Cd := [e1 (.aload_n 0), eG (.getfield 20) 7 1 1 9, none, none, e1 (.iload_n 1), eV (.iconst 2) 1 2, eS (.invokevirtual 43) 94 2 14, none, none, e1 (.istore_n 3), e1 (.iconst 0), e2 (.istore 4), none, e2 (.iload 4), none, 
  e1 (.aload_n 0), eG (.getfield 29) 7 4 4 22, none, none, eS (.invokevirtual 47) 91 0 13, none, none, eA (.if_icmp .ge 46) 3 68, none, none, e1 (.aload_n 0), eG (.getfield 29) 7 4 4 22, none, none, e2 (.iload 4), none, 
  e1 (.iconst 0), eS (.invokevirtual 43) 94 2 14, none, none, e1 (.iload_n 1), eA (.if_icmp .ne 26) 3 62, none, none, e1 (.aload_n 0), e2 (.iload 4), none, e1 (.iload_n 2), eS (.invokevirtual 98) 87 2 146, none, none, 
  eA (.ifCond .eq 16) 3 62, none, none, e1 (.iload_n 3), e1 (.aload_n 0), eG (.getfield 29) 7 4 4 22, none, none, e2 (.iload 4), none, eV (.iconst 1) 1 1, eS (.invokevirtual 43) 94 2 14, none, none, e1 .isub, 
  e1 (.istore_n 3), eV (.iinc 4 1) 3 1, none, none, eA (.goto (-52)) 3 13, none, none, e1 (.iload_n 3), e1 .ireturn]
set_option maxRecDepth 100000 in
def cd87 : Cd := [e1 (.aload_n 0), eG (.getfield 29) 7 4 4 22, none, none, e1 (.iload_n 1), eV (.iconst 3) 1 3, eS (.invokevirtual 43) 94 2 14, none, none, e1 (.istore_n 3), e1 (.aload_n 0), eG (.getfield 29) 7 4 4 22, none, none, 
  e1 (.iload_n 1), eV (.iconst 2) 1 2, eS (.invokevirtual 43) 94 2 14, none, none, e1 (.iload_n 2), eA (.if_icmp .gt 18) 3 38, none, none, e1 (.iload_n 3), some (.ldc 75, 2, 0, 0, -1000000005, 0, [(0, 7)]), none, 
  eA (.if_icmp .eq 8) 3 34, none, none, e1 (.iload_n 3), e1 (.iload_n 2), eA (.if_icmp .le 7) 3 38, none, none, eV (.iconst 1) 1 1, eA (.goto 4) 3 39, none, none, e1 (.iconst 0), e1 .ireturn]
set_option maxRecDepth 100000 in
def cd88 : Cd := [e1 (.aload_n 0), e1 (.aload_n 0), eG (.getfield 36) 7 6 6 29, none, none, eV (.sipush 25173) 3 25173, none, none, e1 .imul, eV (.sipush 13849) 3 13849, none, none, e1 .iadd, some (.ldc 101, 2, 0, 0, 65536, 0, [(0, 17)]), 
  none, e1 .irem, eG (.putfield 36) 7 6 6 29, none, none, e1 (.iload_n 1), eS (.invokestatic 63) 265 1 33, none, none, e1 (.istore_n 2), e1 (.iload_n 2), eA (.ifCond .le 12) 3 37, none, none, e1 (.aload_n 0), 
  eG (.getfield 36) 7 6 6 29, none, none, e1 (.iload_n 2), e1 .irem, eA (.goto 4) 3 38, none, none, e1 (.iconst 0), e1 (.istore_n 3), e1 (.iconst 0), e2 (.istore 4), none, e2 (.iload 4), none, eV (.bipush 10) 2 10, none, 
  eA (.if_icmp .ge 51) 3 97, none, none, e1 (.iload_n 1), e2 (.iload 4), none, e1 .ishr, eV (.iconst 1) 1 1, e1 .iand, eV (.iconst 1) 1 1, eA (.if_icmp .ne 7) 3 63, none, none, eV (.iconst 1) 1 1, eA (.goto 4) 3 64, none, 
  none, e1 (.iconst 0), e2 (.istore 5), none, e2 (.iload 5), none, eA (.ifCond .eq 10) 3 78, none, none, e1 (.iload_n 3), eA (.ifCond .ne 6) 3 78, none, none, e2 (.iload 4), none, e1 .ireturn, e1 (.iload_n 3), 
  e2 (.iload 5), none, eA (.ifCond .eq 7) 3 88, none, none, eV (.iconst 1) 1 1, eA (.goto 4) 3 89, none, none, e1 (.iconst 0), e1 .isub, e1 (.istore_n 3), eV (.iinc 4 1) 3 1, none, none, eA (.goto (-52)) 3 42, none, none, 
  e1 (.iconst 0), e1 .ireturn]
set_option maxRecDepth 100000 in
def cd89 : Cd := [e1 (.iconst 0), e1 (.istore_n 1), e1 (.iconst 0), e1 (.istore_n 2), e1 (.iload_n 2), e1 (.aload_n 0), eG (.getfield 20) 7 1 1 9, none, none, eS (.invokevirtual 47) 91 0 13, none, none, eA (.if_icmp .ge 22) 3 34, none, 
  none, e1 (.iload_n 1), e1 (.aload_n 0), eG (.getfield 20) 7 1 1 9, none, none, e1 (.iload_n 2), eV (.bipush 10) 2 10, none, eS (.invokevirtual 43) 94 2 14, none, none, e1 .iadd, e1 (.istore_n 1), eV (.iinc 2 1) 3 1, none, 
  none, eA (.goto (-27)) 3 4, none, none, e1 (.iload_n 1), e1 .ireturn]
set_option maxRecDepth 100000 in
def cd90 : Cd := [e1 (.iconst 0), e1 (.istore_n 1), e1 (.iconst 0), e1 (.istore_n 2), e1 (.iload_n 2), e1 (.aload_n 0), eS (.getfield 14) 7 0 4, none, none, eS (.invokevirtual 47) 91 0 13, none, none, eA (.if_icmp .ge 22) 3 34, none, none, 
  e1 (.iload_n 1), e1 (.aload_n 0), eS (.getfield 14) 7 0 4, none, none, e1 (.iload_n 2), eV (.bipush 6) 2 6, none, eS (.invokevirtual 43) 94 2 14, none, none, e1 .iadd, e1 (.istore_n 1), eV (.iinc 2 1) 3 1, none, none, 
  eA (.goto (-27)) 3 4, none, none, e1 (.iload_n 1), e1 .ireturn]
set_option maxRecDepth 100000 in
def cd91 : Cd := [e1 (.aload_n 0), eG (.getfield 9) 8 2 2 2, none, none, e1 .ireturn]
set_option maxRecDepth 100000 in
def cd92 : Cd := [e1 (.aload_n 0), eG (.getfield 9) 8 2 2 2, none, none, e1 (.aload_n 0), eG (.getfield 21) 8 3 3 3, none, none, eA (.if_icmp .lt 7) 3 15, none, none, eV (.iconst 1) 1 1, eA (.goto 4) 3 16, none, none, e1 (.iconst 0), 
  e1 .ireturn]
set_option maxRecDepth 100000 in
def cd93 : Cd := [e1 (.iload_n 1), eA (.ifCond .lt 15) 3 16, none, none, e1 (.iload_n 1), e1 (.aload_n 0), eG (.getfield 9) 8 2 2 2, none, none, eA (.if_icmp .ge 7) 3 16, none, none, eV (.iconst 1) 1 1, eA (.goto 4) 3 17, none, none, 
  e1 (.iconst 0), e1 .ireturn]
set_option maxRecDepth 100000 in
def cd94 : Cd := [e1 (.iload_n 1), eA (.ifCond .lt 23) 3 24, none, none, e1 (.iload_n 1), e1 (.aload_n 0), eG (.getfield 9) 8 2 2 2, none, none, eA (.if_icmp .ge 15) 3 24, none, none, e1 (.iload_n 2), eA (.ifCond .lt 11) 3 24, none, none, 
  e1 (.iload_n 2), e1 (.aload_n 0), eS (.getfield 24) 8 0 0, none, none, eA (.if_icmp .lt 5) 3 26, none, none, e1 (.iconst 0), e1 .ireturn, e1 (.aload_n 0), eG (.getfield 27) 8 1 1 1, none, none, e1 (.iload_n 1), 
  e1 (.aload_n 0), eS (.getfield 24) 8 0 0, none, none, e1 .imul, e1 (.iload_n 2), e1 .iadd, e1 .iaload, e1 .ireturn]
set_option maxRecDepth 100000 in
def cd95 : Cd := [e1 (.iload_n 1), eA (.ifCond .lt 23) 3 24, none, none, e1 (.iload_n 1), e1 (.aload_n 0), eG (.getfield 9) 8 2 2 2, none, none, eA (.if_icmp .ge 15) 3 24, none, none, e1 (.iload_n 2), eA (.ifCond .lt 11) 3 24, none, none, 
  e1 (.iload_n 2), e1 (.aload_n 0), eS (.getfield 24) 8 0 0, none, none, eA (.if_icmp .lt 4) 3 25, none, none, e1 .return_, e1 (.aload_n 0), eG (.getfield 27) 8 1 1 1, none, none, e1 (.iload_n 1), e1 (.aload_n 0), 
  eS (.getfield 24) 8 0 0, none, none, e1 .imul, e1 (.iload_n 2), e1 .iadd, e1 (.iload_n 3), e1 .iastore, e1 .return_]
set_option maxRecDepth 100000 in
def cd96 : Cd := [e1 (.aload_n 0), e1 (.iload_n 1), e1 (.iload_n 2), eS (.invokevirtual 31) 94 2 8, none, none, e2 (.istore 4), none, e1 (.aload_n 0), e1 (.iload_n 1), e1 (.iload_n 2), e1 (.iload_n 3), eS (.invokevirtual 34) 95 3 9, none, 
  none, e2 (.iload 4), none, e1 .ireturn]
set_option maxRecDepth 100000 in
def cd97 : Cd := [e1 (.aload_n 0), e1 (.iload_n 1), e1 (.iload_n 2), e1 (.aload_n 0), e1 (.iload_n 1), e1 (.iload_n 2), eS (.invokevirtual 31) 94 2 8, none, none, e1 (.iload_n 3), e1 .iadd, eS (.invokevirtual 34) 95 3 9, none, none, 
  e1 .return_]
set_option maxRecDepth 100000 in
def cd98 : Cd := [e1 (.aload_n 0), eG (.getfield 9) 8 2 2 2, none, none, e1 (.aload_n 0), eG (.getfield 21) 8 3 3 3, none, none, eA (.if_icmp .lt 6) 3 14, none, none, some (.ldc 38, 2, 0, 0, -1000000005, 0, [(0, 2)]), none, e1 .ireturn, 
  e1 (.aload_n 0), e1 .dup, eG (.getfield 9) 8 2 2 2, none, none, eV (.iconst 1) 1 1, e1 .iadd, eG (.putfield 9) 8 2 2 2, none, none, e1 (.aload_n 0), eG (.getfield 9) 8 2 2 2, none, none, eV (.iconst 1) 1 1, e1 .isub, 
  e1 .ireturn]
set_option maxRecDepth 100000 in
def cd99 : Cd := [e1 (.aload_n 1), eA (.ifnull 16) 3 17, none, none, e1 (.aload_n 1), eG (.getfield 27) 8 1 1 1, none, none, e1 .arraylength, e1 (.aload_n 0), eG (.getfield 27) 8 1 1 1, none, none, e1 .arraylength, 
  eA (.if_icmp .eq 4) 3 18, none, none, e1 .return_, e1 (.aload_n 1), eG (.getfield 27) 8 1 1 1, none, none, e1 (.iconst 0), e1 (.aload_n 0), eG (.getfield 27) 8 1 1 1, none, none, e1 (.iconst 0), e1 (.aload_n 0), 
  eG (.getfield 27) 8 1 1 1, none, none, e1 .arraylength, eS (.invokestatic 39) 1003 5 18, none, none, e1 (.aload_n 0), e1 (.aload_n 1), eG (.getfield 9) 8 2 2 2, none, none, eG (.putfield 9) 8 2 2 2, none, none, 
  e1 .return_]
set_option maxRecDepth 100000 in
def cd100 : Cd := [e1 (.aload_n 0), eG (.getfield 15) 9 1 1 54, none, none, e1 .ireturn]
set_option maxRecDepth 100000 in
def cd101 : Cd := [e1 (.aload_n 0), eG (.getfield 15) 9 1 1 54, none, none, eV (.bipush 12) 2 12, none, e1 .iadd, e1 (.aload_n 0), eS (.getfield 9) 9 0 53, none, none, e1 .arraylength, eA (.if_icmp .gt 7) 3 19, none, none, 
  eV (.iconst 1) 1 1, eA (.goto 4) 3 20, none, none, e1 (.iconst 0), e1 .ireturn]
set_option maxRecDepth 100000 in
def cd102 : Cd := [eV (.bipush 24) 2 24, none, e1 (.istore_n 2), e1 (.iload_n 2), eA (.ifCond .lt 54) 3 58, none, none, e1 (.aload_n 0), eG (.getfield 15) 9 1 1 54, none, none, eA (.ifCond .lt 47) 3 58, none, none, e1 (.aload_n 0), 
  eG (.getfield 15) 9 1 1 54, none, none, e1 (.aload_n 0), eS (.getfield 9) 9 0 53, none, none, e1 .arraylength, eA (.if_icmp .ge 35) 3 58, none, none, e1 (.aload_n 0), eS (.getfield 9) 9 0 53, none, none, e1 (.aload_n 0), 
  eG (.getfield 15) 9 1 1 54, none, none, e1 (.iload_n 1), e1 (.iload_n 2), e1 .ishr, eV (.sipush 255) 3 255, none, none, e1 .iand, e1 .iastore, e1 (.aload_n 0), e1 .dup, eG (.getfield 15) 9 1 1 54, none, none, 
  eV (.iconst 1) 1 1, e1 .iadd, eG (.putfield 15) 9 1 1 54, none, none, eV (.iinc 2 (-8)) 3 (-8), none, none, eA (.goto (-52)) 3 3, none, none, e1 .return_]
set_option maxRecDepth 100000 in
def cd103 : Cd := [e1 (.aload_n 0), e1 (.iconst 0), e1 (.iload_n 1), e1 (.aload_n 0), eG (.getfield 15) 9 1 1 54, none, none, eS (.invokestatic 19) 1002 2 4, none, none, eS (.invokestatic 25) 1001 2 5, none, none, 
  eG (.putfield 15) 9 1 1 54, none, none, e1 .return_]
set_option maxRecDepth 100000 in
def cd104 : Cd := [e1 (.iload_n 1), eA (.ifCond .lt 29) 3 30, none, none, e1 (.iload_n 1), e1 (.aload_n 0), eG (.getfield 15) 9 1 1 54, none, none, eA (.if_icmp .ge 21) 3 30, none, none, e1 (.iload_n 1), e1 (.aload_n 0), 
  eS (.getfield 9) 9 0 53, none, none, e1 .arraylength, eA (.if_icmp .ge 12) 3 30, none, none, e1 (.aload_n 0), eS (.getfield 9) 9 0 53, none, none, e1 (.iload_n 1), e1 .iaload, eA (.goto 4) 3 31, none, none, 
  eV (.iconst (-1)) 1 (-1), e1 .ireturn]
set_option maxRecDepth 100000 in
def cd105 : Cd := [e1 (.iload_n 1), eV (.iconst 1) 1 1, eV (.iconst 5) 1 5, eS (.invokestatic 87) 156 3 1, none, none, eA (.ifCond .eq 21) 3 27, none, none, e1 (.iload_n 2), e1 (.iconst 0), eV (.iconst 3) 1 3, eS (.invokestatic 87) 156 3 1, 
  none, none, eA (.ifCond .eq 12) 3 27, none, none, e1 (.iload_n 3), e1 (.iconst 0), eV (.iconst 3) 1 3, eS (.invokestatic 87) 156 3 1, none, none, eA (.ifCond .ne 6) 3 30, none, none, 
  some (.ldc 91, 2, 0, 0, -1000000001, 0, [(0, 0)]), none, e1 .ireturn, e1 (.aload_n 0), eS (.getfield 12) 10 0 70, none, none, eS (.getfield 92) 7 0 7, none, none, eS (.invokevirtual 96) 92 0 2, none, none, 
  eA (.ifCond .eq 6) 3 46, none, none, some (.ldc 102, 2, 0, 0, -1000000003, 0, [(0, 1)]), none, e1 .ireturn, e1 (.aload_n 0), eS (.getfield 12) 10 0 70, none, none, eS (.getfield 92) 7 0 7, none, none, 
  eS (.invokevirtual 103) 98 0 3, none, none, e2 (.istore 4), none, e1 (.aload_n 0), eS (.getfield 12) 10 0 70, none, none, eS (.getfield 92) 7 0 7, none, none, e2 (.iload 4), none, e1 (.iconst 0), e1 (.iload_n 1), 
  eS (.invokevirtual 107) 95 3 4, none, none, e1 (.aload_n 0), eS (.getfield 12) 10 0 70, none, none, eS (.getfield 92) 7 0 7, none, none, e2 (.iload 4), none, eV (.iconst 1) 1 1, e1 (.iload_n 2), 
  eS (.invokevirtual 107) 95 3 4, none, none, e1 (.aload_n 0), eS (.getfield 12) 10 0 70, none, none, eS (.getfield 92) 7 0 7, none, none, e2 (.iload 4), none, eV (.iconst 2) 1 2, e1 (.iload_n 3), 
  eS (.invokevirtual 107) 95 3 4, none, none, e1 (.aload_n 0), eS (.getfield 12) 10 0 70, none, none, eS (.getfield 92) 7 0 7, none, none, e2 (.iload 4), none, eV (.iconst 3) 1 3, eV (.iconst 5) 1 5, 
  eS (.invokevirtual 107) 95 3 4, none, none, e2 (.iload 4), none, e1 .ireturn]
set_option maxRecDepth 100000 in
def cd106 : Cd := [e1 (.aload_n 0), eS (.getfield 12) 10 0 70, none, none, eS (.getfield 92) 7 0 7, none, none, e1 (.iload_n 1), eS (.invokevirtual 111) 93 1 6, none, none, eA (.ifCond .eq 13) 3 24, none, none, e1 (.iload_n 2), 
  e1 (.iconst 0), eV (.bipush 99) 2 99, none, eS (.invokestatic 87) 156 3 1, none, none, eA (.ifCond .ne 6) 3 27, none, none, some (.ldc 91, 2, 0, 0, -1000000001, 0, [(0, 0)]), none, e1 .ireturn, e1 (.aload_n 0), 
  eS (.getfield 12) 10 0 70, none, none, eS (.getfield 92) 7 0 7, none, none, e1 (.iload_n 1), eV (.iconst 3) 1 3, e1 (.iload_n 2), eS (.invokevirtual 115) 96 3 7, none, none, e1 .ireturn]
set_option maxRecDepth 100000 in
def cd107 : Cd := [e1 (.aload_n 0), eS (.getfield 12) 10 0 70, none, none, eS (.getfield 92) 7 0 7, none, none, e1 (.iload_n 1), eS (.invokevirtual 111) 93 1 6, none, none, eA (.ifCond .eq 13) 3 24, none, none, e1 (.iload_n 2), 
  e1 (.iconst 0), eV (.bipush 99) 2 99, none, eS (.invokestatic 87) 156 3 1, none, none, eA (.ifCond .ne 6) 3 27, none, none, some (.ldc 91, 2, 0, 0, -1000000001, 0, [(0, 0)]), none, e1 .ireturn, e1 (.aload_n 0), 
  eS (.getfield 12) 10 0 70, none, none, eS (.getfield 92) 7 0 7, none, none, e1 (.iload_n 1), eV (.iconst 4) 1 4, e1 (.iload_n 2), eS (.invokevirtual 115) 96 3 7, none, none, e1 .ireturn]
set_option maxRecDepth 100000 in
def cd108 : Cd := [e1 (.aload_n 0), eS (.getfield 12) 10 0 70, none, none, eS (.getfield 92) 7 0 7, none, none, e1 (.iload_n 1), eS (.invokevirtual 111) 93 1 6, none, none, eA (.ifCond .eq 13) 3 24, none, none, e1 (.iload_n 2), 
  e1 (.iconst 0), eV (.bipush 10) 2 10, none, eS (.invokestatic 87) 156 3 1, none, none, eA (.ifCond .ne 6) 3 27, none, none, some (.ldc 91, 2, 0, 0, -1000000001, 0, [(0, 0)]), none, e1 .ireturn, e1 (.iload_n 2), 
  some (.tableswitch 83 5 10 #[40, 83, 83, 52, 63, 73], 40, 111, 0, 0, 0, [(5, 68), (6, 111), (7, 111), (8, 80), (9, 91), (10, 101)]), none, none, none, none, none, none, none, none, none, none, none, none, none, none, 
  none, none, none, none, none, none, none, none, none, none, none, none, none, none, none, none, none, none, none, none, none, none, none, none, none, e1 (.aload_n 0), eS (.getfield 12) 10 0 70, none, none, 
  e1 (.iload_n 1), eS (.invokevirtual 119) 67 1 12, none, none, eS (.invokestatic 123) 265 1 15, none, none, e1 .ireturn, e1 (.aload_n 0), eS (.getfield 12) 10 0 70, none, none, e1 (.iload_n 1), 
  some (.ldc 128, 2, 0, 0, -1000000005, 0, [(0, 6)]), none, eS (.invokevirtual 129) 76 2 16, none, none, e1 .ireturn, e1 (.aload_n 0), eS (.getfield 12) 10 0 70, none, none, e1 (.iload_n 1), eV (.iconst 1) 1 1, 
  eS (.invokevirtual 129) 76 2 16, none, none, e1 .ireturn, e1 (.aload_n 0), eS (.getfield 12) 10 0 70, none, none, e1 (.iload_n 1), eV (.iconst 2) 1 2, eS (.invokevirtual 129) 76 2 16, none, none, e1 .ireturn, 
  e1 (.aload_n 0), eS (.getfield 12) 10 0 70, none, none, eS (.getfield 92) 7 0 7, none, none, e1 (.iload_n 1), e1 (.iload_n 2), eS (.invokevirtual 133) 94 2 18, none, none, e1 .ireturn]
set_option maxRecDepth 100000 in
def cd109 : Cd := [e1 (.iload_n 1), e1 (.iconst 0), eV (.iconst 3) 1 3, eS (.invokestatic 87) 156 3 1, none, none, eA (.ifCond .eq 23) 3 29, none, none, e1 (.iload_n 2), e1 (.iconst 0), eV (.iconst 3) 1 3, eS (.invokestatic 87) 156 3 1, 
  none, none, eA (.ifCond .eq 14) 3 29, none, none, e1 (.iload_n 3), eV (.iconst 1) 1 1, eV (.sipush 999) 3 999, none, none, eS (.invokestatic 87) 156 3 1, none, none, eA (.ifCond .ne 6) 3 32, none, none, 
  some (.ldc 91, 2, 0, 0, -1000000001, 0, [(0, 0)]), none, e1 .ireturn, e1 (.aload_n 0), eS (.getfield 12) 10 0 70, none, none, eG (.getfield 136) 7 1 1 14, none, none, eS (.invokevirtual 96) 92 0 2, none, none, 
  eA (.ifCond .eq 6) 3 48, none, none, some (.ldc 102, 2, 0, 0, -1000000003, 0, [(0, 1)]), none, e1 .ireturn, e1 (.aload_n 0), eS (.getfield 12) 10 0 70, none, none, eG (.getfield 136) 7 1 1 14, none, none, 
  eS (.invokevirtual 103) 98 0 3, none, none, e2 (.istore 4), none, e1 (.aload_n 0), eS (.getfield 12) 10 0 70, none, none, eG (.getfield 136) 7 1 1 14, none, none, e2 (.iload 4), none, e1 (.iconst 0), e1 (.iload_n 1), 
  eS (.invokevirtual 107) 95 3 4, none, none, e1 (.aload_n 0), eS (.getfield 12) 10 0 70, none, none, eG (.getfield 136) 7 1 1 14, none, none, e2 (.iload 4), none, eV (.iconst 1) 1 1, e1 (.iload_n 2), 
  eS (.invokevirtual 107) 95 3 4, none, none, e1 (.aload_n 0), eS (.getfield 12) 10 0 70, none, none, eG (.getfield 136) 7 1 1 14, none, none, e2 (.iload 4), none, eV (.iconst 2) 1 2, e1 (.iload_n 3), 
  eS (.invokevirtual 107) 95 3 4, none, none, e1 (.aload_n 0), eS (.getfield 12) 10 0 70, none, none, eG (.getfield 136) 7 1 1 14, none, none, e2 (.iload 4), none, eV (.bipush 8) 2 8, none, 
  some (.ldc 128, 2, 0, 0, -1000000005, 0, [(0, 6)]), none, eS (.invokevirtual 107) 95 3 4, none, none, e1 (.aload_n 0), eS (.getfield 12) 10 0 70, none, none, eG (.getfield 136) 7 1 1 14, none, none, e2 (.iload 4), none, 
  eV (.bipush 9) 2 9, none, some (.ldc 128, 2, 0, 0, -1000000005, 0, [(0, 6)]), none, eS (.invokevirtual 107) 95 3 4, none, none, e2 (.iload 4), none, e1 .ireturn]
set_option maxRecDepth 100000 in
def cd110 : Cd := [e1 (.aload_n 0), eS (.getfield 12) 10 0 70, none, none, eG (.getfield 136) 7 1 1 14, none, none, e1 (.iload_n 1), eS (.invokevirtual 111) 93 1 6, none, none, eA (.ifCond .eq 13) 3 24, none, none, e1 (.iload_n 2), 
  e1 (.iconst 0), eV (.bipush 11) 2 11, none, eS (.invokestatic 87) 156 3 1, none, none, eA (.ifCond .ne 6) 3 27, none, none, some (.ldc 91, 2, 0, 0, -1000000001, 0, [(0, 0)]), none, e1 .ireturn, e1 (.aload_n 0), 
  eS (.getfield 12) 10 0 70, none, none, eG (.getfield 136) 7 1 1 14, none, none, e1 (.iload_n 1), e1 (.iload_n 2), eS (.invokevirtual 133) 94 2 18, none, none, e1 .ireturn]
set_option maxRecDepth 100000 in
def cd111 : Cd := [e1 (.aload_n 0), eS (.getfield 12) 10 0 70, none, none, eG (.getfield 136) 7 1 1 14, none, none, e1 (.iload_n 1), eS (.invokevirtual 111) 93 1 6, none, none, eA (.ifCond .eq 12) 3 23, none, none, e1 (.aload_n 0), 
  e1 (.iload_n 2), e1 (.iload_n 3), eS (.invokevirtual 139) 112 2 22, none, none, eA (.ifCond .ne 6) 3 26, none, none, some (.ldc 91, 2, 0, 0, -1000000001, 0, [(0, 0)]), none, e1 .ireturn, e1 (.aload_n 0), 
  eS (.getfield 12) 10 0 70, none, none, eG (.getfield 136) 7 1 1 14, none, none, e1 (.iload_n 1), e1 (.iload_n 2), e1 (.iload_n 3), eS (.invokevirtual 115) 96 3 7, none, none, e1 .ireturn]
set_option maxRecDepth 100000 in
def cd112 : Cd := [e1 (.iload_n 1), some (.tableswitch 107 0 9 #[55, 62, 107, 69, 107, 107, 107, 107, 107, 78], 55, 108, 0, 0, 0, [(0, 56), (1, 63), (2, 108), (3, 70), (4, 108), (5, 108), (6, 108), (7, 108), (8, 108), (9, 79)]), none, none, 
  none, none, none, none, none, none, none, none, none, none, none, none, none, none, none, none, none, none, none, none, none, none, none, none, none, none, none, none, none, none, none, none, none, none, none, none, none, 
  none, none, none, none, none, none, none, none, none, none, none, none, none, none, none, e1 (.iload_n 2), e1 (.iconst 0), eV (.iconst 3) 1 3, eS (.invokestatic 87) 156 3 1, none, none, e1 .ireturn, e1 (.iload_n 2), 
  e1 (.iconst 0), eV (.iconst 3) 1 3, eS (.invokestatic 87) 156 3 1, none, none, e1 .ireturn, e1 (.iload_n 2), e1 (.iconst 0), eV (.sipush 9999) 3 9999, none, none, eS (.invokestatic 87) 156 3 1, none, none, e1 .ireturn, 
  e1 (.iload_n 2), some (.ldc 128, 2, 0, 0, -1000000005, 0, [(0, 6)]), none, eA (.if_icmp .eq 20) 3 102, none, none, e1 (.iload_n 2), e1 (.aload_n 0), eS (.getfield 12) 10 0 70, none, none, eG (.getfield 143) 7 5 5 28, 
  none, none, eV (.sipush 999) 3 999, none, none, eS (.invokestatic 87) 156 3 1, none, none, eA (.ifCond .eq 7) 3 106, none, none, eV (.iconst 1) 1 1, eA (.goto 4) 3 107, none, none, e1 (.iconst 0), e1 .ireturn, 
  e1 (.iconst 0), e1 .ireturn]
set_option maxRecDepth 100000 in
def cd113 : Cd := [e1 (.aload_n 0), eS (.getfield 12) 10 0 70, none, none, eG (.getfield 136) 7 1 1 14, none, none, e1 (.iload_n 1), eS (.invokevirtual 111) 93 1 6, none, none, eA (.ifCond .eq 31) 3 42, none, none, e1 (.aload_n 0), 
  eS (.getfield 12) 10 0 70, none, none, eG (.getfield 136) 7 1 1 14, none, none, e1 (.iload_n 2), eS (.invokevirtual 111) 93 1 6, none, none, eA (.ifCond .eq 17) 3 42, none, none, e1 (.iload_n 1), e1 (.iload_n 2), 
  eA (.if_icmp .eq 12) 3 42, none, none, e1 (.iload_n 3), e1 (.iconst 0), eV (.iconst 1) 1 1, eS (.invokestatic 87) 156 3 1, none, none, eA (.ifCond .ne 6) 3 45, none, none, 
  some (.ldc 91, 2, 0, 0, -1000000001, 0, [(0, 0)]), none, e1 .ireturn, e1 (.aload_n 0), eS (.getfield 12) 10 0 70, none, none, e1 (.iload_n 1), e1 (.iload_n 2), eS (.invokevirtual 146) 64 2 24, none, none, 
  eA (.ifCond .eq 7) 3 61, none, none, eV (.iconst 1) 1 1, eA (.goto 4) 3 62, none, none, e1 (.iconst 0), e2 (.istore 4), none, e1 (.aload_n 0), eS (.getfield 12) 10 0 70, none, none, e1 (.iload_n 1), e1 (.iload_n 2), 
  e1 (.iload_n 3), eV (.iconst 1) 1 1, eA (.if_icmp .ne 7) 3 79, none, none, eV (.iconst 1) 1 1, eA (.goto 4) 3 80, none, none, e1 (.iconst 0), eS (.invokevirtual 149) 65 3 25, none, none, e1 (.aload_n 0), 
  eS (.getfield 12) 10 0 70, none, none, e1 (.iload_n 2), e1 (.iload_n 1), e1 (.iload_n 3), eV (.iconst 1) 1 1, eA (.if_icmp .ne 7) 3 98, none, none, eV (.iconst 1) 1 1, eA (.goto 4) 3 99, none, none, e1 (.iconst 0), 
  eS (.invokevirtual 149) 65 3 25, none, none, e2 (.iload 4), none, e1 .ireturn]
set_option maxRecDepth 100000 in
def cd114 : Cd := [e1 (.aload_n 0), eS (.getfield 12) 10 0 70, none, none, eG (.getfield 136) 7 1 1 14, none, none, e1 (.iload_n 1), eS (.invokevirtual 111) 93 1 6, none, none, eA (.ifCond .eq 17) 3 28, none, none, e1 (.aload_n 0), 
  eS (.getfield 12) 10 0 70, none, none, eS (.getfield 92) 7 0 7, none, none, e1 (.iload_n 2), eS (.invokevirtual 111) 93 1 6, none, none, eA (.ifCond .ne 6) 3 31, none, none, 
  some (.ldc 91, 2, 0, 0, -1000000001, 0, [(0, 0)]), none, e1 .ireturn, e1 (.aload_n 0), eS (.getfield 12) 10 0 70, none, none, e1 (.iload_n 1), e1 (.iload_n 2), eS (.invokevirtual 153) 66 2 28, none, none, 
  eA (.ifCond .eq 7) 3 47, none, none, eV (.iconst 1) 1 1, eA (.goto 4) 3 48, none, none, e1 (.iconst 0), e1 .ireturn]
set_option maxRecDepth 100000 in
def cd115 : Cd := [e1 (.aload_n 0), eS (.getfield 12) 10 0 70, none, none, eG (.getfield 136) 7 1 1 14, none, none, e1 (.iload_n 1), eS (.invokevirtual 111) 93 1 6, none, none, eA (.ifCond .eq 23) 3 34, none, none, e1 (.iload_n 2), 
  some (.ldc 128, 2, 0, 0, -1000000005, 0, [(0, 6)]), none, eA (.if_icmp .eq 20) 3 37, none, none, e1 (.aload_n 0), eS (.getfield 12) 10 0 70, none, none, eS (.getfield 92) 7 0 7, none, none, e1 (.iload_n 2), 
  eS (.invokevirtual 111) 93 1 6, none, none, eA (.ifCond .ne 6) 3 37, none, none, some (.ldc 91, 2, 0, 0, -1000000001, 0, [(0, 0)]), none, e1 .ireturn, e1 (.iload_n 2), some (.ldc 128, 2, 0, 0, -1000000005, 0, [(0, 6)]), 
  none, eA (.if_icmp .eq 30) 3 70, none, none, e1 (.aload_n 0), eS (.getfield 12) 10 0 70, none, none, e1 (.iload_n 1), e1 (.iload_n 2), eS (.invokevirtual 153) 66 2 28, none, none, eA (.ifCond .eq 15) 3 67, none, none, 
  e1 (.aload_n 0), eS (.getfield 12) 10 0 70, none, none, e1 (.iload_n 1), e1 (.iload_n 2), eS (.invokevirtual 156) 68 2 31, none, none, eA (.ifCond .ne 6) 3 70, none, none, 
  some (.ldc 159, 2, 0, 0, -1000000002, 0, [(0, 8)]), none, e1 .ireturn, e1 (.aload_n 0), eS (.getfield 12) 10 0 70, none, none, eG (.getfield 136) 7 1 1 14, none, none, e1 (.iload_n 1), eV (.bipush 8) 2 8, none, 
  eS (.invokevirtual 133) 94 2 18, none, none, e1 (.istore_n 3), e1 (.aload_n 0), eS (.getfield 12) 10 0 70, none, none, e1 (.iload_n 1), e1 (.iload_n 2), eS (.invokevirtual 160) 69 2 34, none, none, e1 (.iload_n 3), 
  e1 .ireturn]
set_option maxRecDepth 100000 in
def cd116 : Cd := [e1 (.iload_n 1), e1 (.iconst 0), eV (.iconst 1) 1 1, e1 (.aload_n 0), eS (.getfield 12) 10 0 70, none, none, eG (.getfield 136) 7 1 1 14, none, none, eS (.invokevirtual 164) 91 0 38, none, none, e1 .iadd, 
  eS (.invokestatic 87) 156 3 1, none, none, eA (.ifCond .ne 6) 3 23, none, none, some (.ldc 91, 2, 0, 0, -1000000001, 0, [(0, 0)]), none, e1 .ireturn, e1 (.aload_n 0), eG (.getfield 48) 10 6 6 76, none, none, 
  e1 (.aload_n 0), eS (.getfield 12) 10 0 70, none, none, eS (.invokevirtual 167) 8 1 39, none, none, e1 (.iload_n 1), some (.lookupswitch 41 #[(0, 25), (1, 33)], 25, 76, 0, 0, 0, [(0, 60), (1, 68)]), none, none, none, 
  none, none, none, none, none, none, none, none, none, none, none, none, none, none, none, none, none, none, none, none, none, e1 (.aload_n 0), eG (.getfield 48) 10 6 6 76, none, none, eS (.invokevirtual 171) 5 0 51, none, 
  none, e1 .ireturn, e1 (.aload_n 0), eG (.getfield 48) 10 6 6 76, none, none, eS (.invokevirtual 174) 6 0 52, none, none, e1 .ireturn, e1 (.aload_n 0), eG (.getfield 48) 10 6 6 76, none, none, e1 (.iload_n 1), 
  eV (.iconst 2) 1 2, e1 .isub, eS (.invokevirtual 177) 7 1 53, none, none, e1 .ireturn]
set_option maxRecDepth 100000 in
def cd117 : Cd := [e1 (.aload_n 0), eG (.getfield 48) 10 6 6 76, none, none, e1 (.aload_n 0), eS (.getfield 12) 10 0 70, none, none, eS (.invokevirtual 167) 8 1 39, none, none, e1 (.iconst 0), e1 (.istore_n 1), e1 (.iconst 0), 
  e1 (.istore_n 2), e1 (.iload_n 2), e1 (.aload_n 0), eS (.getfield 12) 10 0 70, none, none, eG (.getfield 136) 7 1 1 14, none, none, eS (.invokevirtual 164) 91 0 38, none, none, eA (.if_icmp .ge 63) 3 89, none, none, 
  e1 (.aload_n 0), eS (.getfield 12) 10 0 70, none, none, e1 (.iload_n 2), eS (.invokevirtual 180) 62 1 55, none, none, eA (.ifCond .ne 46) 3 83, none, none, e1 (.aload_n 0), eG (.getfield 48) 10 6 6 76, none, none, 
  e1 (.iload_n 2), eS (.invokevirtual 177) 7 1 53, none, none, e1 (.aload_n 0), eS (.getfield 12) 10 0 70, none, none, eG (.getfield 136) 7 1 1 14, none, none, e1 (.iload_n 2), eV (.bipush 8) 2 8, none, 
  eS (.invokevirtual 133) 94 2 18, none, none, eA (.if_icmp .eq 22) 3 83, none, none, e1 (.aload_n 0), eS (.getfield 12) 10 0 70, none, none, e1 (.iload_n 2), e1 (.aload_n 0), eG (.getfield 48) 10 6 6 76, none, none, 
  e1 (.iload_n 2), eS (.invokevirtual 177) 7 1 53, none, none, eS (.invokevirtual 160) 69 2 34, none, none, eV (.iinc 1 1) 3 1, none, none, eV (.iinc 2 1) 3 1, none, none, eA (.goto (-71)) 3 15, none, none, e1 (.iload_n 1), 
  e1 .ireturn]
set_option maxRecDepth 100000 in
def cd118 : Cd := [e1 (.iconst 0), e1 (.istore_n 1), e1 (.iconst 0), e1 (.istore_n 2), e1 (.iload_n 2), e1 (.aload_n 0), eS (.getfield 12) 10 0 70, none, none, eG (.getfield 136) 7 1 1 14, none, none, eS (.invokevirtual 164) 91 0 38, none, 
  none, eA (.if_icmp .ge 60) 3 75, none, none, e1 (.aload_n 0), eS (.getfield 12) 10 0 70, none, none, e1 (.iload_n 2), eS (.invokevirtual 180) 62 1 55, none, none, eA (.ifCond .ne 43) 3 69, none, none, e1 (.aload_n 0), 
  eS (.getfield 12) 10 0 70, none, none, eG (.getfield 136) 7 1 1 14, none, none, e1 (.iload_n 2), eV (.bipush 6) 2 6, none, eS (.invokevirtual 133) 94 2 18, none, none, eA (.ifCond .ne 27) 3 69, none, none, 
  e1 (.aload_n 0), eS (.getfield 12) 10 0 70, none, none, eG (.getfield 136) 7 1 1 14, none, none, e1 (.iload_n 2), eV (.bipush 8) 2 8, none, eS (.invokevirtual 133) 94 2 18, none, none, 
  some (.ldc 128, 2, 0, 0, -1000000005, 0, [(0, 6)]), none, eA (.if_icmp .ne 9) 3 69, none, none, e1 (.iload_n 1), eV (.iconst 1) 1 1, e1 (.iload_n 2), e1 .ishl, e1 .ior, e1 (.istore_n 1), eV (.iinc 2 1) 3 1, none, none, 
  eA (.goto (-68)) 3 4, none, none, e1 (.iload_n 1), e1 .ireturn]
set_option maxRecDepth 100000 in
def cd119 : Cd := [e1 (.iload_n 1), eS (.invokestatic 183) 157 1 58, none, none, eA (.ifCond .eq 27) 3 31, none, none, e1 (.aload_n 0), eS (.getfield 12) 10 0 70, none, none, eS (.getfield 92) 7 0 7, none, none, e1 (.iload_n 2), 
  eS (.invokevirtual 111) 93 1 6, none, none, eA (.ifCond .eq 13) 3 31, none, none, e1 (.iload_n 1), e1 (.iload_n 3), e2 (.iload 4), none, eS (.invokestatic 186) 158 3 59, none, none, eA (.ifCond .ne 6) 3 34, none, none, 
  some (.ldc 91, 2, 0, 0, -1000000001, 0, [(0, 0)]), none, e1 .ireturn, e1 (.aload_n 0), eS (.getfield 12) 10 0 70, none, none, eG (.getfield 189) 7 2 2 18, none, none, eS (.invokevirtual 96) 92 0 2, none, none, 
  eA (.ifCond .eq 6) 3 50, none, none, some (.ldc 102, 2, 0, 0, -1000000003, 0, [(0, 1)]), none, e1 .ireturn, e1 (.aload_n 0), eS (.getfield 12) 10 0 70, none, none, eG (.getfield 189) 7 2 2 18, none, none, 
  eS (.invokevirtual 103) 98 0 3, none, none, e2 (.istore 5), none, e1 (.aload_n 0), eS (.getfield 12) 10 0 70, none, none, eG (.getfield 189) 7 2 2 18, none, none, e2 (.iload 5), none, e1 (.iconst 0), e1 (.iload_n 1), 
  eS (.invokevirtual 107) 95 3 4, none, none, e1 (.aload_n 0), eS (.getfield 12) 10 0 70, none, none, eG (.getfield 189) 7 2 2 18, none, none, e2 (.iload 5), none, eV (.iconst 1) 1 1, e1 (.iload_n 2), 
  eS (.invokevirtual 107) 95 3 4, none, none, e1 (.aload_n 0), eS (.getfield 12) 10 0 70, none, none, eG (.getfield 189) 7 2 2 18, none, none, e2 (.iload 5), none, eV (.iconst 2) 1 2, e1 (.iload_n 3), 
  eS (.invokevirtual 107) 95 3 4, none, none, e1 (.aload_n 0), eS (.getfield 12) 10 0 70, none, none, eG (.getfield 189) 7 2 2 18, none, none, e2 (.iload 5), none, eV (.iconst 3) 1 3, e2 (.iload 4), none, 
  eS (.invokevirtual 107) 95 3 4, none, none, e1 (.aload_n 0), eS (.getfield 12) 10 0 70, none, none, eG (.getfield 189) 7 2 2 18, none, none, e2 (.iload 5), none, eV (.iconst 4) 1 4, e1 (.iconst 0), 
  eS (.invokevirtual 107) 95 3 4, none, none, e1 (.aload_n 0), eS (.getfield 12) 10 0 70, none, none, eG (.getfield 189) 7 2 2 18, none, none, e2 (.iload 5), none, eV (.iconst 5) 1 5, 
  some (.ldc 128, 2, 0, 0, -1000000005, 0, [(0, 6)]), none, eS (.invokevirtual 107) 95 3 4, none, none, e1 (.aload_n 0), eS (.getfield 12) 10 0 70, none, none, eG (.getfield 189) 7 2 2 18, none, none, e2 (.iload 5), none, 
  eV (.bipush 6) 2 6, none, some (.ldc 128, 2, 0, 0, -1000000005, 0, [(0, 6)]), none, eS (.invokevirtual 107) 95 3 4, none, none, e2 (.iload 5), none, e1 .ireturn]
set_option maxRecDepth 100000 in
def cd120 : Cd := [e1 (.aload_n 0), eS (.getfield 12) 10 0 70, none, none, eG (.getfield 189) 7 2 2 18, none, none, e1 (.iload_n 1), eS (.invokevirtual 111) 93 1 6, none, none, eA (.ifCond .eq 13) 3 24, none, none, e1 (.iload_n 2), 
  e1 (.iconst 0), eV (.bipush 6) 2 6, none, eS (.invokestatic 87) 156 3 1, none, none, eA (.ifCond .ne 6) 3 27, none, none, some (.ldc 91, 2, 0, 0, -1000000001, 0, [(0, 0)]), none, e1 .ireturn, e1 (.aload_n 0), 
  eS (.getfield 12) 10 0 70, none, none, eG (.getfield 189) 7 2 2 18, none, none, e1 (.iload_n 1), e1 (.iload_n 2), eS (.invokevirtual 133) 94 2 18, none, none, e1 .ireturn]
set_option maxRecDepth 100000 in
def cd121 : Cd := [e1 (.aload_n 0), eS (.getfield 12) 10 0 70, none, none, eG (.getfield 189) 7 2 2 18, none, none, e1 (.iload_n 1), eS (.invokevirtual 111) 93 1 6, none, none, eA (.ifCond .eq 10) 3 21, none, none, e1 (.iload_n 2), 
  eS (.invokestatic 183) 157 1 58, none, none, eA (.ifCond .ne 6) 3 24, none, none, some (.ldc 91, 2, 0, 0, -1000000001, 0, [(0, 0)]), none, e1 .ireturn, e1 (.aload_n 0), eS (.getfield 12) 10 0 70, none, none, 
  e1 (.iload_n 1), e1 (.iload_n 2), eS (.invokevirtual 192) 74 2 62, none, none, eA (.ifCond .eq 18) 3 51, none, none, e1 (.aload_n 0), eS (.getfield 12) 10 0 70, none, none, eG (.getfield 189) 7 2 2 18, none, none, 
  e1 (.iload_n 1), eV (.iconst 2) 1 2, eS (.invokevirtual 133) 94 2 18, none, none, eA (.goto 5) 3 53, none, none, some (.ldc 195, 2, 0, 0, -1000000012, 0, [(0, 10)]), none, e1 .ireturn]
set_option maxRecDepth 100000 in
def cd122 : Cd := [e1 (.aload_n 0), eS (.getfield 12) 10 0 70, none, none, eG (.getfield 189) 7 2 2 18, none, none, e1 (.iload_n 1), eS (.invokevirtual 111) 93 1 6, none, none, eA (.ifCond .eq 17) 3 28, none, none, e1 (.aload_n 0), 
  eS (.getfield 12) 10 0 70, none, none, eG (.getfield 136) 7 1 1 14, none, none, e1 (.iload_n 2), eS (.invokevirtual 111) 93 1 6, none, none, eA (.ifCond .ne 6) 3 31, none, none, 
  some (.ldc 91, 2, 0, 0, -1000000001, 0, [(0, 0)]), none, e1 .ireturn, e1 (.aload_n 0), eS (.getfield 12) 10 0 70, none, none, e1 (.iload_n 1), eV (.iconst 1) 1 1, eS (.invokevirtual 192) 74 2 62, none, none, 
  eA (.ifCond .ne 6) 3 46, none, none, some (.ldc 195, 2, 0, 0, -1000000012, 0, [(0, 10)]), none, e1 .ireturn, e1 (.aload_n 0), eS (.getfield 12) 10 0 70, none, none, e1 (.iload_n 2), e1 (.iload_n 1), 
  eS (.invokevirtual 196) 77 2 64, none, none, eA (.ifCond .ne 6) 3 61, none, none, some (.ldc 159, 2, 0, 0, -1000000002, 0, [(0, 8)]), none, e1 .ireturn, e1 (.aload_n 0), eS (.getfield 12) 10 0 70, none, none, 
  eG (.getfield 189) 7 2 2 18, none, none, e1 (.iload_n 1), eV (.iconst 4) 1 4, eV (.iconst 1) 1 1, eS (.invokevirtual 107) 95 3 4, none, none, e1 (.aload_n 0), eS (.getfield 12) 10 0 70, none, none, 
  eG (.getfield 189) 7 2 2 18, none, none, e1 (.iload_n 1), eV (.iconst 5) 1 5, e1 (.iload_n 2), eS (.invokevirtual 107) 95 3 4, none, none, e1 (.aload_n 0), eS (.getfield 12) 10 0 70, none, none, e1 (.iload_n 2), 
  eS (.invokevirtual 199) 72 1 65, none, none, e1 .ireturn]
set_option maxRecDepth 100000 in
def cd123 : Cd := [e1 (.aload_n 0), eS (.getfield 12) 10 0 70, none, none, eG (.getfield 189) 7 2 2 18, none, none, e1 (.iload_n 1), eS (.invokevirtual 111) 93 1 6, none, none, eA (.ifCond .ne 6) 3 17, none, none, 
  some (.ldc 91, 2, 0, 0, -1000000001, 0, [(0, 0)]), none, e1 .ireturn, e1 (.aload_n 0), eS (.getfield 12) 10 0 70, none, none, e1 (.iload_n 1), eV (.iconst 1) 1 1, eS (.invokevirtual 192) 74 2 62, none, none, 
  eA (.ifCond .ne 6) 3 32, none, none, some (.ldc 195, 2, 0, 0, -1000000012, 0, [(0, 10)]), none, e1 .ireturn, e1 (.aload_n 0), eS (.getfield 12) 10 0 70, none, none, eG (.getfield 189) 7 2 2 18, none, none, 
  e1 (.iload_n 1), eV (.iconst 4) 1 4, eS (.invokevirtual 133) 94 2 18, none, none, eA (.ifCond .ne 6) 3 50, none, none, some (.ldc 159, 2, 0, 0, -1000000002, 0, [(0, 8)]), none, e1 .ireturn, e1 (.aload_n 0), 
  eS (.getfield 12) 10 0 70, none, none, eG (.getfield 189) 7 2 2 18, none, none, e1 (.iload_n 1), eV (.iconst 5) 1 5, some (.ldc 128, 2, 0, 0, -1000000005, 0, [(0, 6)]), none, eS (.invokevirtual 107) 95 3 4, none, none, 
  e1 (.aload_n 0), eS (.getfield 12) 10 0 70, none, none, eG (.getfield 189) 7 2 2 18, none, none, e1 (.iload_n 1), eV (.iconst 4) 1 4, e1 (.iconst 0), eS (.invokevirtual 115) 96 3 7, none, none, e1 .ireturn]
set_option maxRecDepth 100000 in
def cd124 : Cd := [e1 (.aload_n 0), eS (.getfield 12) 10 0 70, none, none, eS (.getfield 92) 7 0 7, none, none, e1 (.iload_n 1), eS (.invokevirtual 111) 93 1 6, none, none, eA (.ifCond .eq 22) 3 33, none, none, e1 (.iload_n 2), 
  eA (.ifCond .lt 18) 3 33, none, none, e1 (.iload_n 2), e1 (.aload_n 0), eS (.getfield 12) 10 0 70, none, none, e1 (.iload_n 1), some (.ldc 128, 2, 0, 0, -1000000005, 0, [(0, 6)]), none, eS (.invokevirtual 129) 76 2 16, 
  none, none, e1 .ishr, eA (.ifCond .eq 6) 3 36, none, none, some (.ldc 91, 2, 0, 0, -1000000001, 0, [(0, 0)]), none, e1 .ireturn, e1 (.iload_n 2), e1 (.istore_n 3), e1 (.iconst 0), e2 (.istore 4), none, e1 (.iconst 0), 
  e2 (.istore 5), none, e2 (.iload 5), none, e1 (.aload_n 0), eS (.getfield 12) 10 0 70, none, none, eG (.getfield 189) 7 2 2 18, none, none, eS (.invokevirtual 164) 91 0 38, none, none, eA (.if_icmp .ge 60) 3 116, none, 
  none, e1 (.aload_n 0), eS (.getfield 12) 10 0 70, none, none, e2 (.iload 5), none, e1 (.iload_n 1), eS (.invokevirtual 202) 75 2 68, none, none, eA (.ifCond .eq 41) 3 110, none, none, e2 (.iload 4), none, e1 (.aload_n 0), 
  eS (.getfield 12) 10 0 70, none, none, e2 (.iload 5), none, e1 (.iload_n 3), eV (.iconst 1) 1 1, e1 .iand, eV (.iconst 1) 1 1, eA (.if_icmp .ne 7) 3 91, none, none, eV (.iconst 1) 1 1, eA (.goto 4) 3 92, none, none, 
  e1 (.iconst 0), eS (.invokevirtual 205) 78 2 69, none, none, eA (.ifCond .eq 7) 3 102, none, none, e1 (.iconst 0), eA (.goto 4) 3 103, none, none, eV (.iconst 1) 1 1, e1 .iadd, e2 (.istore 4), none, e1 (.iload_n 3), 
  eV (.iconst 1) 1 1, e1 .ishr, e1 (.istore_n 3), eV (.iinc 5 1) 3 1, none, none, eA (.goto (-69)) 3 44, none, none, e1 (.aload_n 0), eS (.getfield 12) 10 0 70, none, none, eS (.getfield 92) 7 0 7, none, none, 
  e1 (.iload_n 1), eV (.bipush 7) 2 7, none, e2 (.iload 4), none, eA (.ifCond .le 7) 3 135, none, none, eV (.iconst 1) 1 1, eA (.goto 4) 3 136, none, none, e1 (.iconst 0), eS (.invokevirtual 107) 95 3 4, none, none, 
  e2 (.iload 4), none, e1 .ireturn]
set_option maxRecDepth 100000 in
def cd125 : Cd := [e1 (.aload_n 0), eS (.getfield 12) 10 0 70, none, none, eS (.getfield 92) 7 0 7, none, none, e1 (.iload_n 1), eS (.invokevirtual 111) 93 1 6, none, none, eA (.ifCond .ne 6) 3 17, none, none, 
  some (.ldc 91, 2, 0, 0, -1000000001, 0, [(0, 0)]), none, e1 .ireturn, e1 (.iconst 0), e1 (.istore_n 2), e1 (.iconst 0), e1 (.istore_n 3), e1 (.iload_n 3), e1 (.aload_n 0), eS (.getfield 12) 10 0 70, none, none, 
  eG (.getfield 189) 7 2 2 18, none, none, eS (.invokevirtual 164) 91 0 38, none, none, eA (.if_icmp .ge 54) 3 86, none, none, e1 (.aload_n 0), eS (.getfield 12) 10 0 70, none, none, e1 (.iload_n 3), e1 (.iload_n 1), 
  eS (.invokevirtual 202) 75 2 68, none, none, eA (.ifCond .eq 36) 3 80, none, none, e1 (.aload_n 0), eS (.getfield 12) 10 0 70, none, none, eG (.getfield 189) 7 2 2 18, none, none, e1 (.iload_n 3), eV (.iconst 4) 1 4, 
  eS (.invokevirtual 133) 94 2 18, none, none, eV (.iconst 1) 1 1, eA (.if_icmp .ne 20) 3 80, none, none, e1 (.iload_n 2), eV (.iconst 1) 1 1, e1 (.aload_n 0), eS (.getfield 12) 10 0 70, none, none, 
  eG (.getfield 189) 7 2 2 18, none, none, e1 (.iload_n 3), eV (.iconst 5) 1 5, eS (.invokevirtual 133) 94 2 18, none, none, e1 .ishl, e1 .ior, e1 (.istore_n 2), eV (.iinc 3 1) 3 1, none, none, eA (.goto (-62)) 3 21, none, 
  none, e1 (.iload_n 2), e1 .ireturn]
set_option maxRecDepth 100000 in
def cd126 : Cd := [e1 (.aload_n 0), eS (.getfield 12) 10 0 70, none, none, eG (.getfield 189) 7 2 2 18, none, none, e1 (.iload_n 1), eS (.invokevirtual 111) 93 1 6, none, none, eA (.ifCond .ne 6) 3 17, none, none, 
  some (.ldc 91, 2, 0, 0, -1000000001, 0, [(0, 0)]), none, e1 .ireturn, e1 (.aload_n 0), eS (.getfield 12) 10 0 70, none, none, e1 (.iload_n 1), eV (.iconst 5) 1 5, eS (.invokevirtual 192) 74 2 62, none, none, 
  eA (.ifCond .ne 6) 3 32, none, none, some (.ldc 195, 2, 0, 0, -1000000012, 0, [(0, 10)]), none, e1 .ireturn, e1 (.aload_n 0), eS (.getfield 12) 10 0 70, none, none, eG (.getfield 189) 7 2 2 18, none, none, 
  e1 (.iload_n 1), eV (.bipush 6) 2 6, none, eS (.invokevirtual 133) 94 2 18, none, none, e1 (.istore_n 2), e1 (.iload_n 2), some (.ldc 128, 2, 0, 0, -1000000005, 0, [(0, 6)]), none, eA (.if_icmp .ne 13) 3 62, none, none, 
  e1 (.aload_n 0), eS (.getfield 12) 10 0 70, none, none, eG (.getfield 143) 7 5 5 28, none, none, eA (.goto 4) 3 63, none, none, e1 (.iload_n 2), e1 (.aload_n 0), eS (.getfield 12) 10 0 70, none, none, 
  eG (.getfield 189) 7 2 2 18, none, none, e1 (.iload_n 1), eV (.iconst 3) 1 3, eS (.invokevirtual 133) 94 2 18, none, none, e1 .isub, e1 .ireturn]
set_option maxRecDepth 100000 in
def cd127 : Cd := [e1 (.aload_n 0), eS (.getfield 12) 10 0 70, none, none, eS (.getfield 92) 7 0 7, none, none, e1 (.iload_n 1), eS (.invokevirtual 111) 93 1 6, none, none, eA (.ifCond .eq 18) 3 29, none, none, e1 (.aload_n 0), 
  eG (.getfield 41) 10 5 5 75, none, none, e1 (.aload_n 0), eS (.getfield 12) 10 0 70, none, none, e1 (.iload_n 1), eS (.invokevirtual 209) 17 2 73, none, none, eA (.goto 5) 3 31, none, none, 
  some (.ldc 91, 2, 0, 0, -1000000001, 0, [(0, 0)]), none, e1 .ireturn]
set_option maxRecDepth 100000 in
def cd128 : Cd := [e1 (.aload_n 0), eG (.getfield 55) 10 7 7 77, none, none, eS (.invokevirtual 213) 101 0 83, none, none, eA (.ifCond .ne 6) 3 13, none, none, some (.ldc 102, 2, 0, 0, -1000000003, 0, [(0, 1)]), none, e1 .ireturn, 
  e1 (.aload_n 0), eG (.getfield 55) 10 7 7 77, none, none, e1 (.iload_n 1), eS (.invokevirtual 216) 102 1 84, none, none, e1 (.aload_n 0), eG (.getfield 55) 10 7 7 77, none, none, e1 (.iload_n 2), 
  eS (.invokevirtual 216) 102 1 84, none, none, e1 (.aload_n 0), eG (.getfield 55) 10 7 7 77, none, none, e1 (.iload_n 3), eS (.invokevirtual 216) 102 1 84, none, none, e1 (.aload_n 0), eG (.getfield 55) 10 7 7 77, none, 
  none, eS (.invokevirtual 219) 100 0 85, none, none, e1 .ireturn]
set_option maxRecDepth 100000 in
def cd129 : Cd := [e1 (.iload_n 1), e1 (.iconst 0), e1 (.aload_n 0), eG (.getfield 55) 10 7 7 77, none, none, eS (.invokevirtual 219) 100 0 85, none, none, eS (.invokestatic 87) 156 3 1, none, none, eA (.ifCond .ne 6) 3 18, none, none, 
  some (.ldc 91, 2, 0, 0, -1000000001, 0, [(0, 0)]), none, e1 .ireturn, e1 (.aload_n 0), eG (.getfield 55) 10 7 7 77, none, none, e1 (.iload_n 1), eS (.invokevirtual 222) 103 1 87, none, none, e1 (.iload_n 1), e1 .ireturn]
set_option maxRecDepth 100000 in
def cd130 : Cd := [e1 (.iload_n 1), e1 (.iconst 0), eV (.sipush 999) 3 999, none, none, eS (.invokestatic 87) 156 3 1, none, none, eA (.ifCond .ne 14) 3 22, none, none, e1 (.aload_n 0), eG (.getfield 55) 10 7 7 77, none, none, 
  e1 (.iconst 0), eS (.invokevirtual 222) 103 1 87, none, none, some (.ldc 91, 2, 0, 0, -1000000001, 0, [(0, 0)]), none, e1 .ireturn, e1 (.aload_n 0), eG (.getfield 64) 10 8 8 78, none, none, 
  eS (.invokevirtual 225) 27 0 89, none, none, e1 (.istore_n 2), e1 (.aload_n 0), eG (.getfield 55) 10 7 7 77, none, none, e1 (.iconst 0), eS (.invokevirtual 222) 103 1 87, none, none, e1 (.iload_n 2), 
  some (.ldc 128, 2, 0, 0, -1000000005, 0, [(0, 6)]), none, eA (.if_icmp .eq 8) 3 49, none, none, eV (.bipush (-100)) 2 (-100), none, e1 (.iload_n 2), e1 .isub, e1 .ireturn, e1 (.aload_n 0), eS (.getfield 12) 10 0 70, none, 
  none, eG (.getfield 228) 7 3 3 21, none, none, eS (.invokevirtual 96) 92 0 2, none, none, eA (.ifCond .eq 6) 3 65, none, none, some (.ldc 102, 2, 0, 0, -1000000003, 0, [(0, 1)]), none, e1 .ireturn, e1 (.aload_n 0), 
  eS (.getfield 12) 10 0 70, none, none, eG (.getfield 228) 7 3 3 21, none, none, eS (.invokevirtual 103) 98 0 3, none, none, e1 (.istore_n 3), e1 (.aload_n 0), eS (.getfield 12) 10 0 70, none, none, 
  eG (.getfield 228) 7 3 3 21, none, none, e1 (.iload_n 3), eV (.iconst 1) 1 1, e1 (.iload_n 1), eS (.invokevirtual 107) 95 3 4, none, none, e1 (.aload_n 0), eG (.getfield 64) 10 8 8 78, none, none, e1 (.aload_n 0), 
  eS (.getfield 12) 10 0 70, none, none, eG (.getfield 228) 7 3 3 21, none, none, e1 (.iload_n 3), eS (.invokevirtual 231) 28 2 115, none, none, e1 (.iload_n 3), e1 .ireturn]
set_option maxRecDepth 100000 in
def cd131 : Cd := [e1 (.aload_n 0), eS (.getfield 12) 10 0 70, none, none, eG (.getfield 228) 7 3 3 21, none, none, e1 (.iload_n 1), eS (.invokevirtual 111) 93 1 6, none, none, eA (.ifCond .eq 12) 3 23, none, none, e1 (.iload_n 2), 
  e1 (.iconst 0), eV (.iconst 2) 1 2, eS (.invokestatic 87) 156 3 1, none, none, eA (.ifCond .ne 6) 3 26, none, none, some (.ldc 91, 2, 0, 0, -1000000001, 0, [(0, 0)]), none, e1 .ireturn, e1 (.aload_n 0), 
  eS (.getfield 12) 10 0 70, none, none, eG (.getfield 228) 7 3 3 21, none, none, e1 (.iload_n 1), e1 (.iload_n 2), eS (.invokevirtual 133) 94 2 18, none, none, e1 .ireturn]
set_option maxRecDepth 100000 in
def cd132 : Cd := [e1 (.iload_n 1), e1 (.iconst 0), eV (.iconst 5) 1 5, eS (.invokestatic 87) 156 3 1, none, none, eA (.ifCond .eq 14) 3 20, none, none, e1 (.aload_n 0), eS (.getfield 12) 10 0 70, none, none, e1 (.iload_n 1), 
  eS (.invokevirtual 235) 83 1 121, none, none, eA (.goto 5) 3 22, none, none, some (.ldc 91, 2, 0, 0, -1000000001, 0, [(0, 0)]), none, e1 .ireturn]
set_option maxRecDepth 100000 in
def cd133 : Cd := [e1 (.iload_n 1), e1 (.iconst 0), eV (.iconst 5) 1 5, eS (.invokestatic 87) 156 3 1, none, none, eA (.ifCond .eq 22) 3 28, none, none, e1 (.aload_n 0), eG (.getfield 25) 10 3 3 73, none, none, e1 (.aload_n 0), 
  eS (.getfield 12) 10 0 70, none, none, e1 (.iload_n 1), e1 (.iload_n 2), e1 (.iload_n 3), e2 (.iload 4), none, eS (.invokevirtual 238) 48 5 123, none, none, eA (.goto 5) 3 30, none, none, 
  some (.ldc 91, 2, 0, 0, -1000000001, 0, [(0, 0)]), none, e1 .ireturn]
set_option maxRecDepth 100000 in
def cd134 : Cd := [e1 (.aload_n 0), eS (.getfield 12) 10 0 70, none, none, eG (.getfield 136) 7 1 1 14, none, none, e1 (.iload_n 1), eS (.invokevirtual 111) 93 1 6, none, none, eA (.ifCond .ne 6) 3 17, none, none, 
  some (.ldc 91, 2, 0, 0, -1000000001, 0, [(0, 0)]), none, e1 .ireturn, e1 (.aload_n 0), eS (.getfield 12) 10 0 70, none, none, e1 (.iload_n 1), eS (.invokevirtual 180) 62 1 55, none, none, eA (.ifCond .eq 6) 3 31, none, 
  none, some (.ldc 159, 2, 0, 0, -1000000002, 0, [(0, 8)]), none, e1 .ireturn, e1 (.aload_n 0), eG (.getfield 25) 10 3 3 73, none, none, e1 (.aload_n 0), eS (.getfield 12) 10 0 70, none, none, e1 (.iload_n 1), 
  e1 (.iconst 0), eS (.invokevirtual 242) 52 3 133, none, none, e1 (.istore_n 2), e1 (.aload_n 0), eG (.getfield 25) 10 3 3 73, none, none, e1 (.aload_n 0), eS (.getfield 12) 10 0 70, none, none, e1 (.iload_n 1), 
  eV (.iconst 1) 1 1, eS (.invokevirtual 242) 52 3 133, none, none, e1 (.istore_n 3), e1 (.aload_n 0), eG (.getfield 25) 10 3 3 73, none, none, e1 (.aload_n 0), eS (.getfield 12) 10 0 70, none, none, e1 (.iload_n 1), 
  eV (.iconst 2) 1 2, eS (.invokevirtual 242) 52 3 133, none, none, e2 (.istore 4), none, e1 (.aload_n 0), eS (.getfield 12) 10 0 70, none, none, eG (.getfield 136) 7 1 1 14, none, none, e1 (.iload_n 1), eV (.iconst 3) 1 3, 
  e1 (.aload_n 0), eS (.getfield 12) 10 0 70, none, none, eG (.getfield 136) 7 1 1 14, none, none, e1 (.iload_n 1), eV (.iconst 3) 1 3, eS (.invokevirtual 133) 94 2 18, none, none, e1 (.iload_n 2), e1 .isub, 
  eS (.invokevirtual 107) 95 3 4, none, none, e1 (.aload_n 0), eS (.getfield 12) 10 0 70, none, none, e1 (.iload_n 1), eV (.iconst 5) 1 5, e1 (.iload_n 3), eS (.invokevirtual 246) 84 3 135, none, none, e1 (.aload_n 0), 
  eS (.getfield 12) 10 0 70, none, none, e1 (.iload_n 1), eV (.iconst 4) 1 4, e2 (.iload 4), none, eS (.invokevirtual 246) 84 3 135, none, none, e1 (.aload_n 0), eS (.getfield 12) 10 0 70, none, none, 
  eG (.getfield 136) 7 1 1 14, none, none, e1 (.iload_n 1), eV (.bipush 10) 2 10, none, e1 (.iconst 0), eS (.invokevirtual 107) 95 3 4, none, none, e2 (.iload 4), none, e1 .ireturn]
set_option maxRecDepth 100000 in
def cd135 : Cd := [e1 (.aload_n 0), eS (.getfield 12) 10 0 70, none, none, eG (.getfield 136) 7 1 1 14, none, none, e1 (.iload_n 1), eS (.invokevirtual 111) 93 1 6, none, none, eA (.ifCond .eq 12) 3 23, none, none, e1 (.iload_n 2), 
  e1 (.iconst 0), eV (.iconst 2) 1 2, eS (.invokestatic 87) 156 3 1, none, none, eA (.ifCond .ne 6) 3 26, none, none, some (.ldc 91, 2, 0, 0, -1000000001, 0, [(0, 0)]), none, e1 .ireturn, e1 (.aload_n 0), 
  eS (.getfield 12) 10 0 70, none, none, e1 (.iload_n 1), eS (.invokevirtual 180) 62 1 55, none, none, eA (.ifCond .eq 8) 3 42, none, none, some (.ldc 159, 2, 0, 0, -1000000002, 0, [(0, 8)]), none, eA (.goto 16) 3 55, none, 
  none, e1 (.aload_n 0), eG (.getfield 25) 10 3 3 73, none, none, e1 (.aload_n 0), eS (.getfield 12) 10 0 70, none, none, e1 (.iload_n 1), e1 (.iload_n 2), eS (.invokevirtual 242) 52 3 133, none, none, e1 .ireturn]
set_option maxRecDepth 100000 in
def cd136 : Cd := [e1 (.aload_n 0), e1 (.iload_n 1), eS (.invokevirtual 249) 138 1 138, none, none, e1 (.istore_n 2), e1 (.iload_n 2), eA (.ifCond .eq 5) 3 12, none, none, e1 (.iload_n 2), e1 .ireturn, e1 (.aload_n 0), 
  eS (.getfield 12) 10 0 70, none, none, eG (.getfield 136) 7 1 1 14, none, none, e1 (.iload_n 1), eV (.bipush 6) 2 6, none, eS (.invokevirtual 133) 94 2 18, none, none, e1 (.istore_n 3), e1 (.iload_n 3), e1 (.aload_n 0), 
  eS (.getfield 12) 10 0 70, none, none, eG (.getfield 136) 7 1 1 14, none, none, e1 (.iload_n 1), eV (.bipush 13) 2 13, none, eS (.invokevirtual 133) 94 2 18, none, none, e1 .isub, e2 (.istore 4), none, e1 (.aload_n 0), 
  eG (.getfield 25) 10 3 3 73, none, none, e1 (.aload_n 0), eS (.getfield 12) 10 0 70, none, none, eV (.iconst 5) 1 5, e2 (.iload 4), none, e1 (.aload_n 0), eS (.getfield 12) 10 0 70, none, none, 
  eG (.getfield 136) 7 1 1 14, none, none, e1 (.iload_n 1), eV (.iconst 1) 1 1, eS (.invokevirtual 133) 94 2 18, none, none, e1 (.iconst 0), eS (.invokevirtual 238) 48 5 123, none, none, e2 (.istore 5), none, e2 (.iload 5), 
  none, eV (.bipush 99) 2 99, none, eS (.invokestatic 252) 1002 2 14, none, none, e2 (.istore 6), none, e1 (.aload_n 0), eS (.getfield 12) 10 0 70, none, none, eG (.getfield 136) 7 1 1 14, none, none, e1 (.iload_n 1), 
  eV (.bipush 13) 2 13, none, e1 (.iload_n 3), eS (.invokevirtual 107) 95 3 4, none, none, e2 (.iload 6), none, eA (.ifCond .le 14) 3 111, none, none, e1 (.aload_n 0), eS (.getfield 12) 10 0 70, none, none, e1 (.iload_n 1), 
  e2 (.iload 6), none, eS (.invokevirtual 257) 85 2 139, none, none, e1 .pop, e2 (.iload 6), none, e1 .ireturn]
set_option maxRecDepth 100000 in
def cd137 : Cd := [e1 (.iload_n 2), eV (.iconst 1) 1 1, eV (.bipush 99) 2 99, none, eS (.invokestatic 87) 156 3 1, none, none, eA (.ifCond .ne 6) 3 13, none, none, some (.ldc 91, 2, 0, 0, -1000000001, 0, [(0, 0)]), none, e1 .ireturn, 
  e1 (.aload_n 0), e1 (.iload_n 1), eS (.invokevirtual 249) 138 1 138, none, none, e1 (.istore_n 3), e1 (.iload_n 3), eA (.ifCond .eq 7) 3 27, none, none, e1 (.iload_n 3), eA (.goto 13) 3 37, none, none, e1 (.aload_n 0), 
  eS (.getfield 12) 10 0 70, none, none, e1 (.iload_n 1), e1 (.iload_n 2), e1 .ineg, eS (.invokevirtual 257) 85 2 139, none, none, e1 .ireturn]
set_option maxRecDepth 100000 in
def cd138 : Cd := [e1 (.aload_n 0), eS (.getfield 12) 10 0 70, none, none, eG (.getfield 136) 7 1 1 14, none, none, e1 (.iload_n 1), eS (.invokevirtual 111) 93 1 6, none, none, eA (.ifCond .ne 6) 3 17, none, none, 
  some (.ldc 91, 2, 0, 0, -1000000001, 0, [(0, 0)]), none, e1 .ireturn, e1 (.aload_n 0), eS (.getfield 12) 10 0 70, none, none, e1 (.iload_n 1), eS (.invokevirtual 180) 62 1 55, none, none, eA (.ifCond .eq 6) 3 31, none, 
  none, some (.ldc 159, 2, 0, 0, -1000000002, 0, [(0, 8)]), none, e1 .ireturn, e1 (.aload_n 0), eS (.getfield 12) 10 0 70, none, none, eG (.getfield 260) 7 4 4 23, none, none, eS (.invokevirtual 96) 92 0 2, none, none, 
  eA (.ifCond .eq 8) 3 49, none, none, some (.ldc 102, 2, 0, 0, -1000000003, 0, [(0, 1)]), none, eA (.goto 4) 3 50, none, none, e1 (.iconst 0), e1 .ireturn]
set_option maxRecDepth 100000 in
def cd139 : Cd := [e1 (.aload_n 0), eS (.getfield 12) 10 0 70, none, none, eG (.getfield 260) 7 4 4 23, none, none, e1 (.iload_n 1), eS (.invokevirtual 111) 93 1 6, none, none, eA (.ifCond .ne 6) 3 17, none, none, 
  some (.ldc 91, 2, 0, 0, -1000000001, 0, [(0, 0)]), none, e1 .ireturn, e1 (.aload_n 0), eS (.getfield 12) 10 0 70, none, none, eG (.getfield 260) 7 4 4 23, none, none, e1 (.iload_n 1), eV (.iconst 1) 1 1, 
  eS (.invokevirtual 133) 94 2 18, none, none, eA (.ifCond .lt 6) 3 35, none, none, some (.ldc 195, 2, 0, 0, -1000000012, 0, [(0, 10)]), none, e1 .ireturn, e1 (.aload_n 0), eS (.getfield 12) 10 0 70, none, none, 
  eG (.getfield 260) 7 4 4 23, none, none, e1 (.iload_n 1), eV (.iconst 3) 1 3, eS (.invokevirtual 133) 94 2 18, none, none, some (.ldc 128, 2, 0, 0, -1000000005, 0, [(0, 6)]), none, eA (.if_icmp .ne 25) 3 74, none, none, 
  e1 (.aload_n 0), eS (.getfield 12) 10 0 70, none, none, e1 (.aload_n 0), eS (.getfield 12) 10 0 70, none, none, eG (.getfield 260) 7 4 4 23, none, none, e1 (.iload_n 1), e1 (.iconst 0), eS (.invokevirtual 133) 94 2 18, 
  none, none, eS (.invokevirtual 180) 62 1 55, none, none, eA (.ifCond .eq 6) 3 77, none, none, some (.ldc 159, 2, 0, 0, -1000000002, 0, [(0, 8)]), none, e1 .ireturn, e1 (.aload_n 0), eS (.getfield 12) 10 0 70, none, none, 
  eG (.getfield 260) 7 4 4 23, none, none, e1 (.iload_n 1), eV (.iconst 3) 1 3, e1 (.aload_n 0), eS (.getfield 12) 10 0 70, none, none, eG (.getfield 143) 7 5 5 28, none, none, eS (.invokevirtual 107) 95 3 4, none, none, 
  eV (.iconst 1) 1 1, e1 .ireturn]
set_option maxRecDepth 100000 in
def cd140 : Cd := [e1 (.aload_n 0), eS (.getfield 12) 10 0 70, none, none, eG (.getfield 260) 7 4 4 23, none, none, e1 (.iload_n 1), eS (.invokevirtual 111) 93 1 6, none, none, eA (.ifCond .eq 12) 3 23, none, none, e1 (.iload_n 2), 
  e1 (.iconst 0), eV (.iconst 3) 1 3, eS (.invokestatic 87) 156 3 1, none, none, eA (.ifCond .ne 6) 3 26, none, none, some (.ldc 91, 2, 0, 0, -1000000001, 0, [(0, 0)]), none, e1 .ireturn, e1 (.aload_n 0), 
  eS (.getfield 12) 10 0 70, none, none, eG (.getfield 260) 7 4 4 23, none, none, e1 (.iload_n 1), e1 (.iload_n 2), eS (.invokevirtual 133) 94 2 18, none, none, e1 .ireturn]
set_option maxRecDepth 100000 in
def cd141 : Cd := [e1 (.aload_n 0), eS (.getfield 12) 10 0 70, none, none, eG (.getfield 136) 7 1 1 14, none, none, e1 (.iload_n 1), eS (.invokevirtual 111) 93 1 6, none, none, eA (.ifCond .eq 14) 3 25, none, none, e1 (.iload_n 2), 
  e1 (.iconst 0), eV (.sipush 999) 3 999, none, none, eS (.invokestatic 87) 156 3 1, none, none, eA (.ifCond .ne 6) 3 28, none, none, some (.ldc 91, 2, 0, 0, -1000000001, 0, [(0, 0)]), none, e1 .ireturn, e1 (.aload_n 0), 
  eS (.getfield 12) 10 0 70, none, none, e1 (.iload_n 1), e1 (.iload_n 2), eS (.invokevirtual 263) 86 2 145, none, none, e1 .ireturn]
set_option maxRecDepth 100000 in
def cd142 : Cd := [e1 (.iload_n 1), eV (.iconst 1) 1 1, eV (.bipush 60) 2 60, none, eS (.invokestatic 87) 156 3 1, none, none, eA (.ifCond .ne 6) 3 13, none, none, some (.ldc 91, 2, 0, 0, -1000000001, 0, [(0, 0)]), none, e1 .ireturn, 
  e1 (.aload_n 0), eS (.getfield 12) 10 0 70, none, none, eG (.getfield 143) 7 5 5 28, none, none, e1 (.iload_n 1), e1 .iadd, eV (.sipush 999) 3 999, none, none, eA (.if_icmp .le 6) 3 31, none, none, 
  some (.ldc 102, 2, 0, 0, -1000000003, 0, [(0, 1)]), none, e1 .ireturn, e1 (.iconst 0), e1 (.istore_n 2), e1 (.iload_n 2), e1 (.iload_n 1), eA (.if_icmp .ge 20) 3 55, none, none, e1 (.aload_n 0), 
  eG (.getfield 34) 10 4 4 74, none, none, e1 (.aload_n 0), eS (.getfield 12) 10 0 70, none, none, eS (.invokevirtual 266) 0 1 148, none, none, eV (.iinc 2 1) 3 1, none, none, eA (.goto (-19)) 3 33, none, none, 
  e1 (.aload_n 0), eS (.getfield 12) 10 0 70, none, none, eG (.getfield 143) 7 5 5 28, none, none, e1 .ireturn]
set_option maxRecDepth 100000 in
def cd143 : Cd := [e1 (.iload_n 1), e1 (.iconst 0), eG (.ldc_w 269) 0 0 65535 16, none, none, eS (.invokestatic 87) 156 3 1, none, none, eA (.ifCond .ne 6) 3 14, none, none, some (.ldc 91, 2, 0, 0, -1000000001, 0, [(0, 0)]), none, 
  e1 .ireturn, e1 (.aload_n 0), eS (.getfield 12) 10 0 70, none, none, eG (.getfield 270) 7 6 6 30, none, none, e1 (.istore_n 2), e1 (.aload_n 0), eS (.getfield 12) 10 0 70, none, none, e1 (.iload_n 1), 
  eG (.putfield 270) 7 6 6 30, none, none, e1 (.iload_n 2), e1 .ireturn]
set_option maxRecDepth 100000 in
def cd144 : Cd := [e1 (.iload_n 1), eV (.iconst 1) 1 1, eV (.bipush 10) 2 10, none, eS (.invokestatic 87) 156 3 1, none, none, eA (.ifCond .ne 6) 3 13, none, none, some (.ldc 91, 2, 0, 0, -1000000001, 0, [(0, 0)]), none, e1 .ireturn, 
  e1 (.aload_n 0), eS (.getfield 12) 10 0 70, none, none, eS (.invokevirtual 273) 63 0 166, none, none, e1 (.istore_n 2), e1 (.iload_n 2), e1 (.istore_n 3), e1 (.iconst 0), e2 (.istore 4), none, e2 (.iload 4), none, 
  e1 (.iload_n 1), eA (.if_icmp .ge 28) 3 57, none, none, e1 (.iload_n 3), eA (.ifCond .eq 24) 3 57, none, none, e1 (.iload_n 3), eV (.iconst 1) 1 1, e1 (.aload_n 0), eS (.getfield 12) 10 0 70, none, none, e1 (.iload_n 3), 
  eS (.invokevirtual 276) 88 1 167, none, none, e1 .ishl, eV (.iconst (-1)) 1 (-1), e1 .ixor, e1 .iand, e1 (.istore_n 3), eV (.iinc 4 1) 3 1, none, none, eA (.goto (-28)) 3 26, none, none, e1 (.iload_n 2), e1 (.iload_n 3), 
  eV (.iconst (-1)) 1 (-1), e1 .ixor, e1 .iand, e1 .ireturn]
set_option maxRecDepth 100000 in
def cd145 : Cd := [e1 (.aload_n 0), eG (.getfield 71) 10 9 9 79, none, none, e1 (.iload_n 1), e1 (.iload_n 2), e1 (.iload_n 3), eS (.invokevirtual 279) 53 3 169, none, none, e1 .ireturn]
set_option maxRecDepth 100000 in
def cd146 : Cd := [e1 (.aload_n 0), eG (.getfield 71) 10 9 9 79, none, none, e1 (.iload_n 1), e1 (.iload_n 2), e1 (.iconst 0), e1 (.iload_n 3), eS (.invokevirtual 282) 54 4 172, none, none, e1 .ireturn]
set_option maxRecDepth 100000 in
def cd147 : Cd := [e1 (.aload_n 0), eG (.getfield 71) 10 9 9 79, none, none, e1 (.iload_n 1), e1 (.iload_n 2), eV (.sipush 1000) 3 1000, none, none, e1 (.iload_n 3), eS (.invokevirtual 282) 54 4 172, none, none, e1 .ireturn]
set_option maxRecDepth 100000 in
def cd148 : Cd := [e1 (.aload_n 0), eG (.getfield 71) 10 9 9 79, none, none, e1 (.iload_n 1), e1 (.iload_n 2), e1 (.iload_n 3), e2 (.iload 4), none, e2 (.iload 5), none, eS (.invokevirtual 286) 55 5 177, none, none, e1 .ireturn]
set_option maxRecDepth 100000 in
def cd149 : Cd := [e1 (.aload_n 0), eG (.getfield 71) 10 9 9 79, none, none, e1 (.iload_n 1), eS (.invokevirtual 290) 56 1 180, none, none, e1 .ireturn]
set_option maxRecDepth 100000 in
def cd150 : Cd := [e1 (.aload_n 0), eG (.getfield 79) 10 11 11 81, none, none, e1 (.aload_n 0), eG (.getfield 75) 10 10 10 80, none, none, e1 .arraylength, eA (.if_icmp .lt 6) 3 15, none, none, 
  some (.ldc 102, 2, 0, 0, -1000000003, 0, [(0, 1)]), none, e1 .ireturn, e1 (.aload_n 0), eG (.getfield 75) 10 10 10 80, none, none, e1 (.aload_n 0), eG (.getfield 79) 10 11 11 81, none, none, e1 (.iload_n 1), e1 .iastore, 
  e1 (.aload_n 0), e1 .dup, eG (.getfield 79) 10 11 11 81, none, none, eV (.iconst 1) 1 1, e1 .iadd, eG (.putfield 79) 10 11 11 81, none, none, e1 (.aload_n 0), eG (.getfield 79) 10 11 11 81, none, none, e1 .ireturn]
set_option maxRecDepth 100000 in
def cd151 : Cd := [e1 (.aload_n 0), eG (.getfield 79) 10 11 11 81, none, none, e1 (.istore_n 2), e1 (.aload_n 0), e1 (.iconst 0), eG (.putfield 79) 10 11 11 81, none, none, e1 (.iload_n 1), eV (.iconst 1) 1 1, eV (.bipush 30) 2 30, none, 
  eS (.invokestatic 87) 156 3 1, none, none, eA (.ifCond .ne 6) 3 23, none, none, some (.ldc 91, 2, 0, 0, -1000000001, 0, [(0, 0)]), none, e1 .ireturn, e1 (.aload_n 0), eG (.getfield 83) 10 12 12 82, none, none, 
  eA (.ifCond .ne 6) 3 33, none, none, some (.ldc 159, 2, 0, 0, -1000000002, 0, [(0, 8)]), none, e1 .ireturn, e1 (.aload_n 0), eG (.getfield 19) 10 2 2 72, none, none, e1 (.aload_n 0), eG (.getfield 16) 10 1 1 71, none, 
  none, eS (.invokevirtual 293) 61 1 183, none, none, e1 (.iconst 0), e1 (.istore_n 3), e1 (.iload_n 3), e1 (.iload_n 1), eA (.if_icmp .ge 70) 3 118, none, none, e1 (.aload_n 0), eG (.getfield 34) 10 4 4 74, none, none, 
  e1 (.aload_n 0), eG (.getfield 19) 10 2 2 72, none, none, eS (.invokevirtual 266) 0 1 148, none, none, e1 (.aload_n 0), eV (.iconst 2) 1 2, e1 (.iload_n 3), e1 .imul, e1 (.iload_n 2), e1 (.aload_n 0), 
  eG (.getfield 19) 10 2 2 72, none, none, eS (.invokevirtual 296) 89 0 185, none, none, eS (.invokevirtual 299) 152 3 186, none, none, eA (.ifCond .ne 9) 3 86, none, none, eV (.iconst 1) 1 1, eV (.iconst 2) 1 2, 
  e1 (.iload_n 3), e1 .imul, e1 .iadd, e1 .ireturn, e1 (.aload_n 0), eV (.iconst 2) 1 2, e1 (.iload_n 3), e1 .imul, eV (.iconst 1) 1 1, e1 .iadd, e1 (.iload_n 2), e1 (.aload_n 0), eG (.getfield 19) 10 2 2 72, none, none, 
  eS (.invokevirtual 302) 90 0 187, none, none, eS (.invokevirtual 299) 152 3 186, none, none, eA (.ifCond .ne 9) 3 112, none, none, eV (.iconst 2) 1 2, eV (.iconst 2) 1 2, e1 (.iload_n 3), e1 .imul, e1 .iadd, e1 .ireturn, 
  eV (.iinc 3 1) 3 1, none, none, eA (.goto (-69)) 3 46, none, none, e1 (.iload_n 2), eV (.iconst 2) 1 2, e1 (.iload_n 1), e1 .imul, eA (.if_icmp .le 11) 3 133, none, none, eV (.iconst 1) 1 1, eV (.iconst 2) 1 2, 
  e1 (.iload_n 1), e1 .imul, e1 .iadd, eA (.goto 4) 3 134, none, none, e1 (.iconst 0), e1 .ireturn]
set_option maxRecDepth 100000 in
def cd152 : Cd := [e1 (.iload_n 1), eA (.ifCond .lt 31) 3 32, none, none, e1 (.iload_n 1), e1 (.iload_n 2), eA (.if_icmp .ge 26) 3 32, none, none, e1 (.iload_n 1), e1 (.aload_n 0), eG (.getfield 75) 10 10 10 80, none, none, e1 .arraylength, 
  eA (.if_icmp .ge 17) 3 32, none, none, e1 (.aload_n 0), eG (.getfield 75) 10 10 10 80, none, none, e1 (.iload_n 1), e1 .iaload, e1 (.iload_n 3), eA (.if_icmp .ne 7) 3 32, none, none, eV (.iconst 1) 1 1, eA (.goto 4) 3 33, 
  none, none, e1 (.iconst 0), e1 .ireturn]
set_option maxRecDepth 100000 in
def cd153 : Cd := [e1 (.aload_n 0), eG (.getfield 16) 10 1 1 71, none, none, e1 (.aload_n 0), eS (.getfield 12) 10 0 70, none, none, eS (.invokevirtual 293) 61 1 183, none, none, e1 (.aload_n 0), eV (.iconst 1) 1 1, 
  eG (.putfield 83) 10 12 12 82, none, none, e1 (.aload_n 0), eS (.getfield 12) 10 0 70, none, none, eG (.getfield 143) 7 5 5 28, none, none, e1 .ireturn]
set_option maxRecDepth 100000 in
def cd154 : Cd := [e1 (.aload_n 0), eG (.getfield 83) 10 12 12 82, none, none, eA (.ifCond .ne 6) 3 10, none, none, some (.ldc 159, 2, 0, 0, -1000000002, 0, [(0, 8)]), none, e1 .ireturn, e1 (.aload_n 0), eS (.getfield 12) 10 0 70, none, 
  none, e1 (.aload_n 0), eG (.getfield 16) 10 1 1 71, none, none, eS (.invokevirtual 293) 61 1 183, none, none, e1 (.aload_n 0), eS (.getfield 12) 10 0 70, none, none, eG (.getfield 143) 7 5 5 28, none, none, e1 .ireturn]
set_option maxRecDepth 100000 in
def cd155 : Cd := [e1 (.iload_n 1), 
  some (.tableswitch 215 0 13 #[71, 82, 93, 115, 123, 134, 142, 153, 164, 169, 177, 185, 193, 204], 71, 216, 0, 0, 0, [(0, 72), (1, 83), (2, 94), (3, 116), (4, 124), (5, 135), (6, 143), (7, 154), (8, 165), (9, 170), (10, 178), (11, 186), (12, 194), (13, 205)]), 
  none, none, none, none, none, none, none, none, none, none, none, none, none, none, none, none, none, none, none, none, none, none, none, none, none, none, none, none, none, none, none, none, none, none, none, none, none, 
  none, none, none, none, none, none, none, none, none, none, none, none, none, none, none, none, none, none, none, none, none, none, none, none, none, none, none, none, none, none, none, none, none, e1 (.aload_n 0), 
  eS (.getfield 12) 10 0 70, none, none, eS (.getfield 92) 7 0 7, none, none, eS (.invokevirtual 164) 91 0 38, none, none, e1 .ireturn, e1 (.aload_n 0), eS (.getfield 12) 10 0 70, none, none, eG (.getfield 136) 7 1 1 14, 
  none, none, eS (.invokevirtual 164) 91 0 38, none, none, e1 .ireturn, e1 (.aload_n 0), eS (.getfield 12) 10 0 70, none, none, eG (.getfield 136) 7 1 1 14, none, none, eS (.invokevirtual 164) 91 0 38, none, none, 
  e1 (.aload_n 0), eS (.getfield 12) 10 0 70, none, none, eS (.invokevirtual 273) 63 0 166, none, none, eS (.invokestatic 123) 265 1 15, none, none, e1 .isub, e1 .ireturn, e1 (.aload_n 0), eS (.getfield 12) 10 0 70, none, 
  none, eS (.invokevirtual 305) 73 0 191, none, none, e1 .ireturn, e1 (.aload_n 0), eS (.getfield 12) 10 0 70, none, none, eG (.getfield 189) 7 2 2 18, none, none, eS (.invokevirtual 164) 91 0 38, none, none, e1 .ireturn, 
  e1 (.aload_n 0), eS (.getfield 12) 10 0 70, none, none, eS (.invokevirtual 308) 80 0 192, none, none, e1 .ireturn, e1 (.aload_n 0), eS (.getfield 12) 10 0 70, none, none, eG (.getfield 228) 7 3 3 21, none, none, 
  eS (.invokevirtual 164) 91 0 38, none, none, e1 .ireturn, e1 (.aload_n 0), eS (.getfield 12) 10 0 70, none, none, eG (.getfield 260) 7 4 4 23, none, none, eS (.invokevirtual 164) 91 0 38, none, none, e1 .ireturn, 
  e1 (.aload_n 0), eG (.getfield 79) 10 11 11 81, none, none, e1 .ireturn, e1 (.aload_n 0), eG (.getfield 55) 10 7 7 77, none, none, eS (.invokevirtual 219) 100 0 85, none, none, e1 .ireturn, e1 (.aload_n 0), 
  eS (.getfield 12) 10 0 70, none, none, eG (.getfield 143) 7 5 5 28, none, none, e1 .ireturn, e1 (.aload_n 0), eS (.getfield 12) 10 0 70, none, none, eG (.getfield 270) 7 6 6 30, none, none, e1 .ireturn, e1 (.aload_n 0), 
  eS (.getfield 12) 10 0 70, none, none, some (.ldc 128, 2, 0, 0, -1000000005, 0, [(0, 6)]), none, eV (.iconst 1) 1 1, eS (.invokevirtual 129) 76 2 16, none, none, e1 .ireturn, e1 (.aload_n 0), eS (.getfield 12) 10 0 70, 
  none, none, some (.ldc 128, 2, 0, 0, -1000000005, 0, [(0, 6)]), none, eV (.iconst 2) 1 2, eS (.invokevirtual 129) 76 2 16, none, none, e1 .ireturn, some (.ldc 91, 2, 0, 0, -1000000001, 0, [(0, 0)]), none, e1 .ireturn]
set_option maxRecDepth 100000 in
def cd156 : Cd := [e1 (.iload_n 0), e1 (.iload_n 1), eA (.if_icmp .lt 12) 3 14, none, none, e1 (.iload_n 0), e1 (.iload_n 2), eA (.if_icmp .gt 7) 3 14, none, none, eV (.iconst 1) 1 1, eA (.goto 4) 3 15, none, none, e1 (.iconst 0), 
  e1 .ireturn]
set_option maxRecDepth 100000 in
def cd157 : Cd := [e1 (.iload_n 0), eA (.ifCond .lt 13) 3 14, none, none, e1 (.iload_n 0), eV (.bipush 6) 2 6, none, eA (.if_icmp .ge 7) 3 14, none, none, eV (.iconst 1) 1 1, eA (.goto 4) 3 15, none, none, e1 (.iconst 0), e1 .ireturn]
set_option maxRecDepth 100000 in
def cd158 : Cd := [e1 (.iload_n 0), eA (.ifCond .lt 27) 3 28, none, none, e1 (.iload_n 0), eS (.getstatic 311) 1201 0 0, none, none, e1 .arraylength, eA (.if_icmp .ge 19) 3 28, none, none, e1 (.iload_n 0), eS (.getstatic 314) 1202 0 1, 
  none, none, e1 .arraylength, eA (.if_icmp .ge 11) 3 28, none, none, e1 (.iload_n 0), eS (.getstatic 317) 1203 0 2, none, none, e1 .arraylength, eA (.if_icmp .lt 5) 3 30, none, none, e1 (.iconst 0), e1 .ireturn, 
  e1 (.iload_n 1), eS (.getstatic 311) 1201 0 0, none, none, e1 (.iload_n 0), e1 .iaload, eS (.getstatic 314) 1202 0 1, none, none, e1 (.iload_n 0), e1 .iaload, eS (.invokestatic 87) 156 3 1, none, none, 
  eA (.ifCond .eq 20) 3 64, none, none, e1 (.iload_n 2), e1 (.iconst 0), eS (.getstatic 317) 1203 0 2, none, none, e1 (.iload_n 0), e1 .iaload, eS (.invokestatic 87) 156 3 1, none, none, eA (.ifCond .eq 7) 3 64, none, none, 
  eV (.iconst 1) 1 1, eA (.goto 4) 3 65, none, none, e1 (.iconst 0), e1 .ireturn]
set_option maxRecDepth 100000 in
def cd159 : Cd := [e1 (.lload_n 0), e1 (.lload_n 2), e1 .lcmp, eA (.ifCond .lt 14) 3 17, none, none, e1 (.lload_n 0), e2 (.lload 4), none, e1 .lcmp, eA (.ifCond .gt 7) 3 17, none, none, eV (.iconst 1) 1 1, eA (.goto 4) 3 18, none, none, 
  e1 (.iconst 0), e1 .ireturn]
set_option maxRecDepth 100000 in
def cd160 : Cd := [e1 (.iload_n 0), eA (.ifCond .ge 8) 3 9, none, none, some (.ldc 66, 2, 0, 0, -1000000005, 0, [(0, 26)]), none, eA (.goto 4) 3 10, none, none, e1 (.iload_n 0), e1 .ireturn]
set_option maxRecDepth 100000 in
def cd161 : Cd := [e1 (.iload_n 0), e1 (.iload_n 1), eA (.if_icmp .ge 7) 3 9, none, none, e1 (.iload_n 0), eA (.goto 4) 3 10, none, none, e1 (.iload_n 1), e1 .ireturn]
set_option maxRecDepth 100000 in
def cd162 : Cd := [e1 (.aload_n 0), eS (.getfield 7) 11 0 83, none, none, e1 (.iload_n 1), e1 .iaload, e1 (.istore_n 3), e1 (.aload_n 0), eS (.getfield 7) 11 0 83, none, none, e1 (.iload_n 1), e1 (.iload_n 2), e1 .iastore, e1 (.iload_n 3), 
  e1 .ireturn]
set_option maxRecDepth 100000 in
def cd163 : Cd := [eV (.bipush 10) 2 10, none, eV (.bipush 10) 2 10, none, e1 (.iload_n 1), e1 .imul, e1 .iadd, e1 .ireturn]
set_option maxRecDepth 100000 in
def cd164 : Cd := [eV (.bipush 40) 2 40, none, eV (.bipush 16) 2 16, none, e1 (.iload_n 1), e1 .imul, e1 .iadd, e1 .ireturn]
set_option maxRecDepth 100000 in
def cd165 : Cd := [eV (.sipush 300) 3 300, none, none, eV (.bipush 9) 2 9, none, e1 (.iload_n 1), e1 .imul, e1 .iadd, e1 .ireturn]
set_option maxRecDepth 100000 in
def cd166 : Cd := [eV (.sipush 600) 3 600, none, none, eV (.sipush 200) 3 200, none, none, e1 (.iload_n 1), e1 .imul, e1 .iadd, e1 .ireturn]
set_option maxRecDepth 100000 in
def cd167 : Cd := [eV (.sipush 3000) 3 3000, none, none, eV (.iconst 4) 1 4, e1 (.iload_n 1), e1 .imul, e1 .iadd, e1 .ireturn]
set_option maxRecDepth 100000 in
def cd168 : Cd := [e1 (.iload_n 1), e1 .i2l, e1 (.lconst 0), e1 (.aload_n 0), eS (.getfield 7) 11 0 83, none, none, eV (.iconst 1) 1 1, e1 .iaload, eV (.iconst 1) 1 1, e1 .isub, e1 .i2l, eS (.invokestatic 67) 159 3 194, none, none, 
  e1 .ireturn]
set_option maxRecDepth 100000 in
def cd169 : Cd := [e1 (.iload_n 1), e1 .i2l, e1 (.lconst 0), e1 (.aload_n 0), eS (.getfield 7) 11 0 83, none, none, eV (.iconst 2) 1 2, e1 .iaload, eV (.iconst 1) 1 1, e1 .isub, e1 .i2l, eS (.invokestatic 67) 159 3 194, none, none, 
  e1 .ireturn]
set_option maxRecDepth 100000 in
def cd170 : Cd := [e1 (.iload_n 1), e1 .i2l, e1 (.lconst 0), e1 (.aload_n 0), eS (.getfield 7) 11 0 83, none, none, eV (.iconst 3) 1 3, e1 .iaload, eV (.iconst 1) 1 1, e1 .isub, e1 .i2l, eS (.invokestatic 67) 159 3 194, none, none, 
  e1 .ireturn]
set_option maxRecDepth 100000 in
def cd171 : Cd := [e1 (.iload_n 1), e1 .i2l, e1 (.lconst 0), e1 (.aload_n 0), eS (.getfield 7) 11 0 83, none, none, eV (.iconst 4) 1 4, e1 .iaload, eV (.iconst 1) 1 1, e1 .isub, e1 .i2l, eS (.invokestatic 67) 159 3 194, none, none, 
  e1 .ireturn]
set_option maxRecDepth 100000 in
def cd172 : Cd := [e1 (.aload_n 0), eS (.getfield 7) 11 0 83, none, none, e1 (.aload_n 0), e1 (.iload_n 1), eS (.invokevirtual 71) 164 1 205, none, none, eV (.bipush 11) 2 11, none, e1 .iadd, e1 .iaload, eV (.iconst 1) 1 1, 
  eA (.if_icmp .ne 7) 3 21, none, none, eV (.iconst 1) 1 1, eA (.goto 4) 3 22, none, none, e1 (.iconst 0), e1 .ireturn]
set_option maxRecDepth 100000 in
def cd173 : Cd := [e1 (.aload_n 0), eS (.getfield 7) 11 0 83, none, none, e1 (.aload_n 0), e1 (.iload_n 1), eS (.invokevirtual 75) 165 1 203, none, none, e1 .iaload, e1 .i2l, some (.lconst 1, 1, 0, 0, 0, 1, []), 
  some (.ldc2_w 78, 3, 0, 0, 0, 3, [(0, 1)]), none, none, eS (.invokestatic 67) 159 3 194, none, none, e1 .ireturn]
set_option maxRecDepth 100000 in
def cd174 : Cd := [e1 (.aload_n 0), eS (.getfield 7) 11 0 83, none, none, e1 (.aload_n 0), e1 (.iload_n 1), eS (.invokevirtual 71) 164 1 205, none, none, e1 (.iload_n 2), e1 .iadd, some (.ldc 80, 2, 0, 0, 99999, 0, [(0, 29)]), none, 
  e1 (.aload_n 0), eS (.getfield 7) 11 0 83, none, none, e1 (.aload_n 0), e1 (.iload_n 1), eS (.invokevirtual 71) 164 1 205, none, none, e1 (.iload_n 2), e1 .iadd, e1 .iaload, e1 (.iload_n 3), e1 .iadd, 
  eS (.invokestatic 81) 161 2 264, none, none, e1 .iastore, e1 .return_]
set_option maxRecDepth 100000 in
def cd175 : Cd := [e1 (.iload_n 1), e1 .i2l, some (.lconst 1, 1, 0, 0, 0, 1, []), some (.ldc2_w 85, 3, 0, 0, 0, 5, [(0, 0)]), none, none, eS (.invokestatic 67) 159 3 194, none, none, eA (.ifCond .eq 27) 3 36, none, none, e1 (.iload_n 2), 
  e1 .i2l, e1 (.lconst 0), some (.ldc2_w 78, 3, 0, 0, 0, 3, [(0, 1)]), none, none, eS (.invokestatic 67) 159 3 194, none, none, eA (.ifCond .eq 15) 3 36, none, none, e1 (.iload_n 3), e1 .i2l, e1 (.lconst 0), 
  some (.ldc2_w 78, 3, 0, 0, 0, 3, [(0, 1)]), none, none, eS (.invokestatic 67) 159 3 194, none, none, eA (.ifCond .ne 6) 3 39, none, none, some (.ldc 87, 2, 0, 0, -1000000001, 0, [(0, 24)]), none, e1 .ireturn, 
  e1 (.aload_n 0), eS (.getfield 7) 11 0 83, none, none, eV (.iconst 1) 1 1, e1 .iaload, eV (.iconst 3) 1 3, eA (.if_icmp .ne 6) 3 52, none, none, some (.ldc 88, 2, 0, 0, -1000000003, 0, [(0, 25)]), none, e1 .ireturn, 
  e1 (.aload_n 0), e1 (.aload_n 0), eS (.getfield 7) 11 0 83, none, none, eV (.iconst 1) 1 1, e1 .iaload, eS (.invokevirtual 89) 163 1 195, none, none, e2 (.istore 4), none, e1 (.iconst 0), e2 (.istore 5), none, 
  e2 (.iload 5), none, eV (.bipush 10) 2 10, none, eA (.if_icmp .ge 20) 3 91, none, none, e1 (.aload_n 0), eS (.getfield 7) 11 0 83, none, none, e2 (.iload 4), none, e2 (.iload 5), none, e1 .iadd, e1 (.iconst 0), 
  e1 .iastore, eV (.iinc 5 1) 3 1, none, none, eA (.goto (-21)) 3 67, none, none, e1 (.aload_n 0), eS (.getfield 7) 11 0 83, none, none, e2 (.iload 4), none, e1 (.iconst 0), e1 .iadd, e1 (.iload_n 1), e1 .iastore, 
  e1 (.aload_n 0), eS (.getfield 7) 11 0 83, none, none, e2 (.iload 4), none, eV (.iconst 1) 1 1, e1 .iadd, e1 (.iload_n 2), e1 .iastore, e1 (.aload_n 0), eS (.getfield 7) 11 0 83, none, none, e2 (.iload 4), none, 
  eV (.iconst 2) 1 2, e1 .iadd, e1 (.iload_n 3), e1 .iastore, e1 (.aload_n 0), eS (.getfield 7) 11 0 83, none, none, e2 (.iload 4), none, eV (.iconst 3) 1 3, e1 .iadd, eV (.iconst 5) 1 5, e1 .iastore, e1 (.aload_n 0), 
  eS (.getfield 7) 11 0 83, none, none, eV (.iconst 1) 1 1, e1 .dup2, e1 .iaload, eV (.iconst 1) 1 1, e1 .iadd, e1 .iastore, e1 (.aload_n 0), eS (.getfield 7) 11 0 83, none, none, eV (.iconst 1) 1 1, e1 .iaload, 
  eV (.iconst 1) 1 1, e1 .isub, e1 .ireturn]
set_option maxRecDepth 100000 in
def cd176 : Cd := [e1 (.aload_n 0), e1 (.iload_n 1), eS (.invokevirtual 92) 168 1 197, none, none, eA (.ifCond .eq 30) 3 35, none, none, e1 (.iload_n 2), e1 .i2l, e1 (.lconst 0), some (.ldc2_w 96, 3, 0, 0, 0, 99, [(0, 2)]), none, none, 
  eS (.invokestatic 67) 159 3 194, none, none, eA (.ifCond .eq 18) 3 35, none, none, e1 (.aload_n 0), e1 (.aload_n 0), e1 (.iload_n 1), eS (.invokevirtual 89) 163 1 195, none, none, eV (.iconst 3) 1 3, e1 .iadd, 
  e1 (.iload_n 2), eS (.invokevirtual 98) 162 2 198, none, none, eA (.goto 5) 3 37, none, none, some (.ldc 87, 2, 0, 0, -1000000001, 0, [(0, 24)]), none, e1 .ireturn]
set_option maxRecDepth 100000 in
def cd177 : Cd := [e1 (.aload_n 0), e1 (.iload_n 1), eS (.invokevirtual 92) 168 1 197, none, none, eA (.ifCond .eq 30) 3 35, none, none, e1 (.iload_n 2), e1 .i2l, e1 (.lconst 0), some (.ldc2_w 96, 3, 0, 0, 0, 99, [(0, 2)]), none, none, 
  eS (.invokestatic 67) 159 3 194, none, none, eA (.ifCond .eq 18) 3 35, none, none, e1 (.aload_n 0), e1 (.aload_n 0), e1 (.iload_n 1), eS (.invokevirtual 89) 163 1 195, none, none, eV (.iconst 4) 1 4, e1 .iadd, 
  e1 (.iload_n 2), eS (.invokevirtual 98) 162 2 198, none, none, eA (.goto 5) 3 37, none, none, some (.ldc 87, 2, 0, 0, -1000000001, 0, [(0, 24)]), none, e1 .ireturn]
set_option maxRecDepth 100000 in
def cd178 : Cd := [e1 (.iconst 0), e1 (.istore_n 2), e1 (.iconst 0), e1 (.istore_n 3), e1 (.iload_n 3), e1 (.aload_n 0), eS (.getfield 7) 11 0 83, none, none, eV (.iconst 2) 1 2, e1 .iaload, eA (.if_icmp .ge 34) 3 45, none, none, 
  e1 (.iload_n 2), e1 (.aload_n 0), eS (.getfield 7) 11 0 83, none, none, e1 (.aload_n 0), e1 (.iload_n 3), eS (.invokevirtual 71) 164 1 205, none, none, eV (.bipush 8) 2 8, none, e1 .iadd, e1 .iaload, e1 (.iload_n 1), 
  eA (.if_icmp .ne 7) 3 36, none, none, eV (.iconst 1) 1 1, eA (.goto 4) 3 37, none, none, e1 (.iconst 0), e1 .iadd, e1 (.istore_n 2), eV (.iinc 3 1) 3 1, none, none, eA (.goto (-38)) 3 4, none, none, e1 (.iload_n 2), 
  e1 .ireturn]
set_option maxRecDepth 100000 in
def cd179 : Cd := [e1 (.iconst 0), e1 (.istore_n 3), e1 (.iconst 0), e2 (.istore 4), none, e2 (.iload 4), none, e1 (.aload_n 0), eS (.getfield 7) 11 0 83, none, none, eV (.iconst 3) 1 3, e1 .iaload, eA (.if_icmp .ge 64) 3 77, none, none, 
  e1 (.iload_n 3), e1 (.aload_n 0), e2 (.iload 4), none, eS (.invokevirtual 101) 173 1 202, none, none, eA (.ifCond .eq 45) 3 68, none, none, e1 (.aload_n 0), eS (.getfield 7) 11 0 83, none, none, e1 (.aload_n 0), 
  e2 (.iload 4), none, eS (.invokevirtual 75) 165 1 203, none, none, eV (.iconst 1) 1 1, e1 .iadd, e1 .iaload, e1 (.iload_n 1), eA (.if_icmp .ne 28) 3 68, none, none, e1 (.iload_n 2), eA (.ifCond .lt 20) 3 64, none, none, 
  e1 (.aload_n 0), eS (.getfield 7) 11 0 83, none, none, e1 (.aload_n 0), e2 (.iload 4), none, eS (.invokevirtual 75) 165 1 203, none, none, eV (.iconst 4) 1 4, e1 .iadd, e1 .iaload, e1 (.iload_n 2), 
  eA (.if_icmp .ne 7) 3 68, none, none, eV (.iconst 1) 1 1, eA (.goto 4) 3 69, none, none, e1 (.iconst 0), e1 .iadd, e1 (.istore_n 3), eV (.iinc 4 1) 3 1, none, none, eA (.goto (-69)) 3 5, none, none, e1 (.iload_n 3), 
  e1 .ireturn]
set_option maxRecDepth 100000 in
def cd180 : Cd := [e1 (.aload_n 0), e1 (.iload_n 1), eS (.invokevirtual 92) 168 1 197, none, none, eA (.ifCond .eq 15) 3 20, none, none, e1 (.iload_n 2), e1 .i2l, e1 (.lconst 0), some (.ldc2_w 104, 3, 0, 0, 0, 10, [(0, 3)]), none, none, 
  eS (.invokestatic 67) 159 3 194, none, none, eA (.ifCond .ne 6) 3 23, none, none, some (.ldc 87, 2, 0, 0, -1000000001, 0, [(0, 24)]), none, e1 .ireturn, e1 (.iload_n 2), eV (.bipush 8) 2 8, none, 
  eA (.if_icmp .lt 23) 3 49, none, none, e1 (.aload_n 0), e1 (.iload_n 1), e1 (.iload_n 2), eV (.bipush 8) 2 8, none, eA (.if_icmp .ne 7) 3 41, none, none, eV (.iconst (-1)) 1 (-1), eA (.goto 7) 3 45, none, none, 
  e1 (.iload_n 2), eV (.bipush 8) 2 8, none, e1 .isub, eS (.invokevirtual 106) 179 2 201, none, none, e1 .ireturn, e1 (.iload_n 2), eV (.iconst 5) 1 5, eA (.if_icmp .ne 11) 3 62, none, none, e1 (.aload_n 0), 
  e1 (.iload_n 1), eS (.invokevirtual 109) 178 1 204, none, none, eA (.goto 15) 3 74, none, none, e1 (.aload_n 0), eS (.getfield 7) 11 0 83, none, none, e1 (.aload_n 0), e1 (.iload_n 1), eS (.invokevirtual 89) 163 1 195, 
  none, none, e1 (.iload_n 2), e1 .iadd, e1 .iaload, e1 .ireturn]
set_option maxRecDepth 100000 in
def cd181 : Cd := [e1 (.iload_n 1), e1 .i2l, e1 (.lconst 0), some (.ldc2_w 78, 3, 0, 0, 0, 3, [(0, 1)]), none, none, eS (.invokestatic 67) 159 3 194, none, none, eA (.ifCond .eq 27) 3 36, none, none, e1 (.iload_n 2), e1 .i2l, 
  e1 (.lconst 0), some (.ldc2_w 78, 3, 0, 0, 0, 3, [(0, 1)]), none, none, eS (.invokestatic 67) 159 3 194, none, none, eA (.ifCond .eq 15) 3 36, none, none, e1 (.iload_n 3), e1 .i2l, some (.lconst 1, 1, 0, 0, 0, 1, []), 
  some (.ldc2_w 112, 3, 0, 0, 0, 999, [(0, 4)]), none, none, eS (.invokestatic 67) 159 3 194, none, none, eA (.ifCond .ne 6) 3 39, none, none, some (.ldc 87, 2, 0, 0, -1000000001, 0, [(0, 24)]), none, e1 .ireturn, 
  e1 (.aload_n 0), eS (.getfield 7) 11 0 83, none, none, eV (.iconst 2) 1 2, e1 .iaload, eV (.bipush 10) 2 10, none, eA (.if_icmp .ne 6) 3 53, none, none, some (.ldc 88, 2, 0, 0, -1000000003, 0, [(0, 25)]), none, 
  e1 .ireturn, e1 (.aload_n 0), e1 (.aload_n 0), eS (.getfield 7) 11 0 83, none, none, eV (.iconst 2) 1 2, e1 .iaload, eS (.invokevirtual 71) 164 1 205, none, none, e2 (.istore 4), none, e1 (.iconst 0), e2 (.istore 5), 
  none, e2 (.iload 5), none, eV (.bipush 16) 2 16, none, eA (.if_icmp .ge 20) 3 92, none, none, e1 (.aload_n 0), eS (.getfield 7) 11 0 83, none, none, e2 (.iload 4), none, e2 (.iload 5), none, e1 .iadd, e1 (.iconst 0), 
  e1 .iastore, eV (.iinc 5 1) 3 1, none, none, eA (.goto (-21)) 3 68, none, none, e1 (.aload_n 0), eS (.getfield 7) 11 0 83, none, none, e2 (.iload 4), none, e1 (.iconst 0), e1 .iadd, e1 (.iload_n 1), e1 .iastore, 
  e1 (.aload_n 0), eS (.getfield 7) 11 0 83, none, none, e2 (.iload 4), none, eV (.iconst 1) 1 1, e1 .iadd, e1 (.iload_n 2), e1 .iastore, e1 (.aload_n 0), eS (.getfield 7) 11 0 83, none, none, e2 (.iload 4), none, 
  eV (.iconst 2) 1 2, e1 .iadd, e1 (.iload_n 3), e1 .iastore, e1 (.aload_n 0), eS (.getfield 7) 11 0 83, none, none, e2 (.iload 4), none, eV (.bipush 8) 2 8, none, e1 .iadd, eV (.iconst (-1)) 1 (-1), e1 .iastore, 
  e1 (.aload_n 0), eS (.getfield 7) 11 0 83, none, none, e2 (.iload 4), none, eV (.bipush 9) 2 9, none, e1 .iadd, eV (.iconst (-1)) 1 (-1), e1 .iastore, e1 (.iconst 0), e2 (.istore 5), none, e2 (.iload 5), none, 
  eV (.bipush 10) 2 10, none, eA (.if_icmp .ge 53) 3 204, none, none, e1 (.aload_n 0), eS (.getfield 7) 11 0 83, none, none, eV (.sipush 200) 3 200, none, none, eV (.bipush 10) 2 10, none, e1 (.aload_n 0), 
  eS (.getfield 7) 11 0 83, none, none, eV (.iconst 2) 1 2, e1 .iaload, e1 .imul, e1 .iadd, e2 (.iload 5), none, e1 .iadd, e1 (.iconst 0), e1 .iastore, e1 (.aload_n 0), eS (.getfield 7) 11 0 83, none, none, 
  eV (.sipush 200) 3 200, none, none, eV (.bipush 10) 2 10, none, e2 (.iload 5), none, e1 .imul, e1 .iadd, e1 (.aload_n 0), eS (.getfield 7) 11 0 83, none, none, eV (.iconst 2) 1 2, e1 .iaload, e1 .iadd, e1 (.iconst 0), 
  e1 .iastore, eV (.iinc 5 1) 3 1, none, none, eA (.goto (-54)) 3 147, none, none, e1 (.aload_n 0), eS (.getfield 7) 11 0 83, none, none, eV (.iconst 2) 1 2, e1 .dup2, e1 .iaload, eV (.iconst 1) 1 1, e1 .iadd, e1 .iastore, 
  e1 (.aload_n 0), eS (.getfield 7) 11 0 83, none, none, eV (.iconst 2) 1 2, e1 .iaload, eV (.iconst 1) 1 1, e1 .isub, e1 .ireturn]
set_option maxRecDepth 100000 in
def cd182 : Cd := [e1 (.aload_n 0), e1 (.iload_n 1), eS (.invokevirtual 114) 169 1 208, none, none, eA (.ifCond .eq 15) 3 20, none, none, e1 (.iload_n 2), e1 .i2l, e1 (.lconst 0), some (.ldc2_w 117, 3, 0, 0, 0, 11, [(0, 5)]), none, none, 
  eS (.invokestatic 67) 159 3 194, none, none, eA (.ifCond .ne 6) 3 23, none, none, some (.ldc 87, 2, 0, 0, -1000000001, 0, [(0, 24)]), none, e1 .ireturn, e1 (.aload_n 0), eS (.getfield 7) 11 0 83, none, none, 
  e1 (.aload_n 0), e1 (.iload_n 1), eS (.invokevirtual 71) 164 1 205, none, none, e1 (.iload_n 2), e1 .iadd, e1 .iaload, e1 (.istore_n 3), e1 (.iload_n 2), eV (.bipush 8) 2 8, none, eA (.if_icmp .eq 9) 3 48, none, none, 
  e1 (.iload_n 2), eV (.bipush 9) 2 9, none, eA (.if_icmp .ne 10) 3 55, none, none, e1 (.iload_n 3), eS (.invokestatic 119) 160 1 209, none, none, eA (.goto 4) 3 56, none, none, e1 (.iload_n 3), e1 .ireturn]
set_option maxRecDepth 100000 in
def cd183 : Cd := [e1 (.aload_n 0), e1 (.iload_n 1), eS (.invokevirtual 114) 169 1 208, none, none, eA (.ifCond .ne 6) 3 11, none, none, some (.ldc 87, 2, 0, 0, -1000000001, 0, [(0, 24)]), none, e1 .ireturn, e1 (.iload_n 2), 
  eV (.bipush 9) 2 9, none, eA (.if_icmp .ne 54) 3 68, none, none, e1 (.iload_n 3), some (.ldc 66, 2, 0, 0, -1000000005, 0, [(0, 26)]), none, eA (.if_icmp .eq 21) 3 41, none, none, e1 (.iload_n 3), e1 .i2l, e1 (.aload_n 0), 
  eS (.getfield 7) 11 0 83, none, none, e1 (.iconst 0), e1 .iaload, e1 .i2l, some (.ldc2_w 112, 3, 0, 0, 0, 999, [(0, 4)]), none, none, eS (.invokestatic 67) 159 3 194, none, none, eA (.ifCond .eq 30) 3 68, none, none, 
  e1 (.aload_n 0), e1 (.aload_n 0), e1 (.iload_n 1), eS (.invokevirtual 71) 164 1 205, none, none, eV (.bipush 9) 2 9, none, e1 .iadd, e1 (.iload_n 3), some (.ldc 66, 2, 0, 0, -1000000005, 0, [(0, 26)]), none, 
  eA (.if_icmp .ne 7) 3 60, none, none, eV (.iconst (-1)) 1 (-1), eA (.goto 4) 3 61, none, none, e1 (.iload_n 3), eS (.invokevirtual 98) 162 2 198, none, none, eS (.invokestatic 119) 160 1 209, none, none, e1 .ireturn, 
  e1 (.iload_n 2), eA (.ifCond .eq 8) 3 77, none, none, e1 (.iload_n 2), eV (.iconst 1) 1 1, eA (.if_icmp .ne 15) 3 89, none, none, e1 (.iload_n 3), e1 .i2l, e1 (.lconst 0), some (.ldc2_w 78, 3, 0, 0, 0, 3, [(0, 1)]), none, 
  none, eS (.invokestatic 67) 159 3 194, none, none, eA (.ifCond .ne 20) 3 106, none, none, e1 (.iload_n 2), eV (.iconst 3) 1 3, eA (.if_icmp .ne 19) 3 110, none, none, e1 (.iload_n 3), e1 .i2l, e1 (.lconst 0), 
  some (.ldc2_w 122, 3, 0, 0, 0, 9999, [(0, 6)]), none, none, eS (.invokestatic 67) 159 3 194, none, none, eA (.ifCond .eq 7) 3 110, none, none, eV (.iconst 1) 1 1, eA (.goto 4) 3 111, none, none, e1 (.iconst 0), 
  e2 (.istore 4), none, e2 (.iload 4), none, eA (.ifCond .eq 18) 3 133, none, none, e1 (.aload_n 0), e1 (.aload_n 0), e1 (.iload_n 1), eS (.invokevirtual 71) 164 1 205, none, none, e1 (.iload_n 2), e1 .iadd, 
  e1 (.iload_n 3), eS (.invokevirtual 98) 162 2 198, none, none, eA (.goto 5) 3 135, none, none, some (.ldc 87, 2, 0, 0, -1000000001, 0, [(0, 24)]), none, e1 .ireturn]
set_option maxRecDepth 100000 in
def cd184 : Cd := [e1 (.aload_n 0), eS (.getfield 7) 11 0 83, none, none, eV (.sipush 200) 3 200, none, none, eV (.bipush 10) 2 10, none, e1 (.iload_n 1), e1 .imul, e1 .iadd, e1 (.iload_n 2), e1 .iadd, e1 .iaload, eV (.iconst 1) 1 1, 
  eA (.if_icmp .ne 7) 3 23, none, none, eV (.iconst 1) 1 1, eA (.goto 4) 3 24, none, none, e1 (.iconst 0), e1 .ireturn]
set_option maxRecDepth 100000 in
def cd185 : Cd := [e1 (.aload_n 0), e1 (.iload_n 1), eS (.invokevirtual 114) 169 1 208, none, none, eA (.ifCond .eq 26) 3 31, none, none, e1 (.aload_n 0), e1 (.iload_n 2), eS (.invokevirtual 114) 169 1 208, none, none, 
  eA (.ifCond .eq 18) 3 31, none, none, e1 (.iload_n 1), e1 (.iload_n 2), eA (.if_icmp .eq 13) 3 31, none, none, e1 (.iload_n 3), e1 .i2l, e1 (.lconst 0), some (.lconst 1, 1, 0, 0, 0, 1, []), 
  eS (.invokestatic 67) 159 3 194, none, none, eA (.ifCond .ne 6) 3 34, none, none, some (.ldc 87, 2, 0, 0, -1000000001, 0, [(0, 24)]), none, e1 .ireturn, e1 (.aload_n 0), eS (.getfield 7) 11 0 83, none, none, 
  eV (.sipush 200) 3 200, none, none, eV (.bipush 10) 2 10, none, e1 (.iload_n 2), e1 .imul, e1 .iadd, e1 (.iload_n 1), e1 .iadd, e1 (.iload_n 3), e1 .iastore, e1 (.aload_n 0), eV (.sipush 200) 3 200, none, none, 
  eV (.bipush 10) 2 10, none, e1 (.iload_n 1), e1 .imul, e1 .iadd, e1 (.iload_n 2), e1 .iadd, e1 (.iload_n 3), eS (.invokevirtual 98) 162 2 198, none, none, e1 .ireturn]
set_option maxRecDepth 100000 in
def cd186 : Cd := [e1 (.aload_n 0), e1 (.iload_n 1), eS (.invokevirtual 71) 164 1 205, none, none, e1 (.istore_n 3), e1 (.aload_n 0), e1 (.iload_n 2), eS (.invokevirtual 89) 163 1 195, none, none, e2 (.istore 4), none, e1 (.aload_n 0), 
  e1 (.iload_n 1), eS (.invokevirtual 124) 172 1 214, none, none, eA (.ifCond .ne 77) 3 95, none, none, e1 (.aload_n 0), eS (.getfield 7) 11 0 83, none, none, e1 (.iload_n 3), e1 (.iconst 0), e1 .iadd, e1 .iaload, 
  e1 (.aload_n 0), eS (.getfield 7) 11 0 83, none, none, e2 (.iload 4), none, eV (.iconst 1) 1 1, e1 .iadd, e1 .iaload, eA (.if_icmp .gt 57) 3 95, none, none, e1 (.aload_n 0), eS (.getfield 7) 11 0 83, none, none, 
  e1 (.iload_n 3), eV (.iconst 1) 1 1, e1 .iadd, e1 .iaload, e1 (.aload_n 0), eS (.getfield 7) 11 0 83, none, none, e2 (.iload 4), none, eV (.iconst 2) 1 2, e1 .iadd, e1 .iaload, eA (.if_icmp .lt 37) 3 95, none, none, 
  e1 (.aload_n 0), eS (.getfield 7) 11 0 83, none, none, e1 (.iload_n 3), eV (.bipush 9) 2 9, none, e1 .iadd, e1 .iaload, e1 (.aload_n 0), eS (.getfield 7) 11 0 83, none, none, e1 (.iconst 0), e1 .iaload, 
  eA (.if_icmp .eq 19) 3 95, none, none, e1 (.aload_n 0), eS (.getfield 7) 11 0 83, none, none, e2 (.iload 4), none, eV (.iconst 4) 1 4, e1 .iadd, e1 .iaload, eA (.ifCond .ne 7) 3 95, none, none, eV (.iconst 1) 1 1, 
  eA (.goto 4) 3 96, none, none, e1 (.iconst 0), e1 .ireturn]
set_option maxRecDepth 100000 in
def cd187 : Cd := [e1 (.aload_n 0), e1 (.iload_n 1), eS (.invokevirtual 114) 169 1 208, none, none, eA (.ifCond .eq 11) 3 16, none, none, e1 (.aload_n 0), e1 (.iload_n 2), eS (.invokevirtual 92) 168 1 197, none, none, 
  eA (.ifCond .ne 8) 3 21, none, none, some (.ldc 87, 2, 0, 0, -1000000001, 0, [(0, 24)]), none, eA (.goto 17) 3 35, none, none, e1 (.aload_n 0), e1 (.iload_n 1), e1 (.iload_n 2), eS (.invokevirtual 127) 186 2 213, none, 
  none, eA (.ifCond .eq 7) 3 34, none, none, eV (.iconst 1) 1 1, eA (.goto 4) 3 35, none, none, e1 (.iconst 0), e1 .ireturn]
set_option maxRecDepth 100000 in
def cd188 : Cd := [e1 (.aload_n 0), eS (.getfield 7) 11 0 83, none, none, e1 (.aload_n 0), e1 (.iload_n 1), eS (.invokevirtual 71) 164 1 205, none, none, eV (.bipush 8) 2 8, none, e1 .iadd, e1 .iaload, e1 (.iload_n 2), 
  eA (.if_icmp .ne 4) 3 18, none, none, e1 .return_, e1 (.aload_n 0), eS (.getfield 7) 11 0 83, none, none, e1 (.aload_n 0), e1 (.iload_n 1), eS (.invokevirtual 71) 164 1 205, none, none, eV (.bipush 8) 2 8, none, e1 .iadd, 
  e1 (.iload_n 2), e1 .iastore, e1 (.iconst 0), e1 (.istore_n 3), e1 (.iload_n 3), e1 (.aload_n 0), eS (.getfield 7) 11 0 83, none, none, eV (.iconst 3) 1 3, e1 .iaload, eA (.if_icmp .ge 62) 3 103, none, none, 
  e1 (.aload_n 0), e1 (.iload_n 3), eS (.invokevirtual 75) 165 1 203, none, none, e2 (.istore 4), none, e1 (.aload_n 0), eS (.getfield 7) 11 0 83, none, none, e2 (.iload 4), none, eV (.iconst 4) 1 4, e1 .iadd, e1 .iaload, 
  eV (.iconst 1) 1 1, eA (.if_icmp .ne 36) 3 97, none, none, e1 (.aload_n 0), eS (.getfield 7) 11 0 83, none, none, e2 (.iload 4), none, eV (.iconst 5) 1 5, e1 .iadd, e1 .iaload, e1 (.iload_n 1), eA (.if_icmp .ne 23) 3 97, 
  none, none, e1 (.aload_n 0), eS (.getfield 7) 11 0 83, none, none, e2 (.iload 4), none, eV (.iconst 4) 1 4, e1 .iadd, e1 (.iconst 0), e1 .iastore, e1 (.aload_n 0), eS (.getfield 7) 11 0 83, none, none, e2 (.iload 4), 
  none, eV (.iconst 5) 1 5, e1 .iadd, eV (.iconst (-1)) 1 (-1), e1 .iastore, eV (.iinc 3 1) 3 1, none, none, eA (.goto (-66)) 3 34, none, none, e1 .return_]
set_option maxRecDepth 100000 in
def cd189 : Cd := [e1 (.aload_n 0), e1 (.iload_n 1), eS (.invokevirtual 114) 169 1 208, none, none, eA (.ifCond .eq 17) 3 22, none, none, e1 (.iload_n 2), some (.ldc 66, 2, 0, 0, -1000000005, 0, [(0, 26)]), none, eA (.if_icmp .eq 14) 3 25, 
  none, none, e1 (.aload_n 0), e1 (.iload_n 2), eS (.invokevirtual 92) 168 1 197, none, none, eA (.ifCond .ne 6) 3 25, none, none, some (.ldc 87, 2, 0, 0, -1000000001, 0, [(0, 24)]), none, e1 .ireturn, e1 (.aload_n 0), 
  eS (.getfield 7) 11 0 83, none, none, e1 (.aload_n 0), e1 (.iload_n 1), eS (.invokevirtual 71) 164 1 205, none, none, eV (.bipush 8) 2 8, none, e1 .iadd, e1 .iaload, e1 (.istore_n 3), e1 (.iload_n 2), 
  some (.ldc 66, 2, 0, 0, -1000000005, 0, [(0, 26)]), none, eA (.if_icmp .eq 136) 3 178, none, none, e1 (.iconst 0), e2 (.istore 4), none, e1 (.iconst 0), e2 (.istore 5), none, e1 (.iconst 0), e2 (.istore 6), none, 
  e2 (.iload 6), none, e1 (.aload_n 0), eS (.getfield 7) 11 0 83, none, none, eV (.iconst 2) 1 2, e1 .iaload, eA (.if_icmp .ge 82) 3 144, none, none, e2 (.iload 6), none, e1 (.iload_n 1), eA (.if_icmp .eq 25) 3 93, none, 
  none, e1 (.aload_n 0), eS (.getfield 7) 11 0 83, none, none, e1 (.aload_n 0), e2 (.iload 6), none, eS (.invokevirtual 71) 164 1 205, none, none, eV (.bipush 8) 2 8, none, e1 .iadd, e1 .iaload, e1 (.iload_n 2), 
  eA (.if_icmp .ne 7) 3 93, none, none, eV (.iconst 1) 1 1, eA (.goto 4) 3 94, none, none, e1 (.iconst 0), e2 (.istore 7), none, e2 (.iload 4), none, e2 (.iload 7), none, eA (.ifCond .eq 7) 3 107, none, none, 
  eV (.iconst 1) 1 1, eA (.goto 4) 3 108, none, none, e1 (.iconst 0), e1 .iadd, e2 (.istore 4), none, e2 (.iload 5), none, eA (.ifCond .ne 18) 3 131, none, none, e2 (.iload 7), none, eA (.ifCond .eq 17) 3 135, none, none, 
  e1 (.aload_n 0), e2 (.iload 6), none, e1 (.iload_n 1), eS (.invokevirtual 131) 184 2 216, none, none, eA (.ifCond .eq 7) 3 135, none, none, eV (.iconst 1) 1 1, eA (.goto 4) 3 136, none, none, e1 (.iconst 0), 
  e2 (.istore 5), none, eV (.iinc 6 1) 3 1, none, none, eA (.goto (-87)) 3 54, none, none, e1 (.aload_n 0), e1 (.iload_n 1), e1 (.iload_n 2), eS (.invokevirtual 127) 186 2 213, none, none, eA (.ifCond .eq 25) 3 175, none, 
  none, e2 (.iload 4), none, e1 (.aload_n 0), eS (.getfield 7) 11 0 83, none, none, e1 (.aload_n 0), e1 (.iload_n 2), eS (.invokevirtual 89) 163 1 195, none, none, e1 (.iconst 0), e1 .iadd, e1 .iaload, 
  eA (.if_icmp .eq 8) 3 175, none, none, e2 (.iload 5), none, eA (.ifCond .eq 6) 3 178, none, none, some (.ldc 134, 2, 0, 0, -1000000002, 0, [(0, 27)]), none, e1 .ireturn, e1 (.aload_n 0), e1 (.iload_n 1), e1 (.iload_n 2), 
  some (.ldc 66, 2, 0, 0, -1000000005, 0, [(0, 26)]), none, eA (.if_icmp .ne 7) 3 190, none, none, eV (.iconst (-1)) 1 (-1), eA (.goto 4) 3 191, none, none, e1 (.iload_n 2), eS (.invokevirtual 135) 188 2 217, none, none, 
  e1 (.iload_n 3), eS (.invokestatic 119) 160 1 209, none, none, e1 .ireturn]
set_option maxRecDepth 100000 in
def cd190 : Cd := [e1 (.aload_n 0), e1 (.iload_n 1), e1 (.iload_n 2), eS (.invokevirtual 127) 186 2 213, none, none, eA (.ifCond .eq 24) 3 30, none, none, e1 (.aload_n 0), eG (.getfield 35) 11 9 9 92, none, none, e1 (.iload_n 2), 
  e1 .iaload, e1 (.aload_n 0), eS (.getfield 7) 11 0 83, none, none, e1 (.aload_n 0), e1 (.iload_n 2), eS (.invokevirtual 89) 163 1 195, none, none, e1 (.iconst 0), e1 .iadd, e1 .iaload, eA (.if_icmp .ne 5) 3 32, none, 
  none, e1 (.iconst 0), e1 .ireturn, eV (.iconst 1) 1 1, e1 (.istore_n 3), e1 (.iconst 0), e2 (.istore 4), none, e2 (.iload 4), none, e1 (.iload_n 1), eA (.if_icmp .ge 40) 3 80, none, none, e1 (.iload_n 3), 
  eA (.ifCond .eq 28) 3 72, none, none, e1 (.aload_n 0), eG (.getfield 29) 11 7 7 90, none, none, e2 (.iload 4), none, e1 .iaload, e1 (.iload_n 2), eA (.if_icmp .ne 13) 3 68, none, none, e1 (.aload_n 0), e2 (.iload 4), 
  none, e1 (.iload_n 1), eS (.invokevirtual 131) 184 2 216, none, none, eA (.ifCond .ne 7) 3 72, none, none, eV (.iconst 1) 1 1, eA (.goto 4) 3 73, none, none, e1 (.iconst 0), e1 (.istore_n 3), eV (.iinc 4 1) 3 1, none, 
  none, eA (.goto (-40)) 3 37, none, none, e1 (.iload_n 3), e1 .ireturn]
set_option maxRecDepth 100000 in
def cd191 : Cd := [e1 (.iload_n 2), e1 (.aload_n 0), eS (.getfield 7) 11 0 83, none, none, eV (.iconst 2) 1 2, e1 .iaload, e1 .iadd, e1 (.iload_n 1), e1 .isub, e2 (.istore 4), none, e2 (.iload 4), none, e1 (.aload_n 0), 
  eG (.getfield 139) 11 10 10 93, none, none, eA (.if_icmp .lt 20) 3 38, none, none, e2 (.iload 4), none, e1 (.aload_n 0), eG (.getfield 139) 11 10 10 93, none, none, eA (.if_icmp .ne 12) 3 39, none, none, e1 (.iload_n 3), 
  e1 (.aload_n 0), eG (.getfield 143) 11 11 11 94, none, none, eA (.if_icmp .lt 4) 3 39, none, none, e1 .return_, e1 (.iload_n 1), e1 (.aload_n 0), eS (.getfield 7) 11 0 83, none, none, eV (.iconst 2) 1 2, e1 .iaload, 
  eA (.if_icmp .ne 43) 3 89, none, none, e1 (.aload_n 0), e1 (.iload_n 2), eG (.putfield 139) 11 10 10 93, none, none, e1 (.aload_n 0), e1 (.iload_n 3), eG (.putfield 143) 11 11 11 94, none, none, e1 (.iconst 0), 
  e2 (.istore 5), none, e2 (.iload 5), none, e1 (.iload_n 1), eA (.if_icmp .ge 23) 3 88, none, none, e1 (.aload_n 0), eG (.getfield 32) 11 8 8 91, none, none, e2 (.iload 5), none, e1 (.aload_n 0), 
  eG (.getfield 29) 11 7 7 90, none, none, e2 (.iload 5), none, e1 .iaload, e1 .iastore, eV (.iinc 5 1) 3 1, none, none, eA (.goto (-23)) 3 62, none, none, e1 .return_, e1 (.iconst 0), e2 (.istore 5), none, e2 (.iload 5), 
  none, e1 (.aload_n 0), eS (.getfield 7) 11 0 83, none, none, eV (.iconst 1) 1 1, e1 .iaload, eA (.if_icmp .ge 74) 3 174, none, none, e1 (.aload_n 0), e1 (.iload_n 1), e2 (.iload 5), none, 
  eS (.invokevirtual 146) 190 2 221, none, none, eA (.ifCond .eq 58) 3 168, none, none, e1 (.aload_n 0), eG (.getfield 29) 11 7 7 90, none, none, e1 (.iload_n 1), e2 (.iload 5), none, e1 .iastore, e1 (.aload_n 0), 
  eG (.getfield 35) 11 9 9 92, none, none, e2 (.iload 5), none, e1 .dup2, e1 .iaload, eV (.iconst 1) 1 1, e1 .iadd, e1 .iastore, e1 (.aload_n 0), e1 (.iload_n 1), eV (.iconst 1) 1 1, e1 .iadd, e1 (.iload_n 2), 
  eV (.iconst 1) 1 1, e1 .iadd, e1 (.iload_n 3), e1 (.aload_n 0), eS (.getfield 7) 11 0 83, none, none, e1 (.aload_n 0), e1 (.iload_n 1), eS (.invokevirtual 71) 164 1 205, none, none, eV (.bipush 6) 2 6, none, e1 .iadd, 
  e1 .iaload, e1 .iadd, eS (.invokevirtual 149) 191 3 220, none, none, e1 (.aload_n 0), eG (.getfield 35) 11 9 9 92, none, none, e2 (.iload 5), none, e1 .dup2, e1 .iaload, eV (.iconst 1) 1 1, e1 .isub, e1 .iastore, 
  eV (.iinc 5 1) 3 1, none, none, eA (.goto (-79)) 3 92, none, none, e1 (.aload_n 0), eG (.getfield 29) 11 7 7 90, none, none, e1 (.iload_n 1), eV (.iconst 3) 1 3, e1 .iastore, e1 (.aload_n 0), e1 (.iload_n 1), 
  eV (.iconst 1) 1 1, e1 .iadd, e1 (.iload_n 2), e1 (.iload_n 3), eS (.invokevirtual 149) 191 3 220, none, none, e1 .return_]
set_option maxRecDepth 100000 in
def cd192 : Cd := [e1 (.aload_n 0), eV (.iconst (-1)) 1 (-1), eG (.putfield 139) 11 10 10 93, none, none, e1 (.aload_n 0), e1 (.iconst 0), eG (.putfield 143) 11 11 11 94, none, none, e1 (.aload_n 0), e1 (.iconst 0), e1 (.iconst 0), 
  e1 (.iconst 0), eS (.invokevirtual 149) 191 3 220, none, none, e1 .return_]
set_option maxRecDepth 100000 in
def cd193 : Cd := [e1 (.iload_n 1), e1 .i2l, e1 (.lconst 0), e1 (.aload_n 0), eS (.getfield 7) 11 0 83, none, none, eV (.iconst 2) 1 2, e1 .iaload, eV (.iconst 1) 1 1, e1 .iadd, e1 .i2l, eS (.invokestatic 67) 159 3 194, none, none, 
  eA (.ifCond .ne 6) 3 21, none, none, some (.ldc 87, 2, 0, 0, -1000000001, 0, [(0, 24)]), none, e1 .ireturn, e1 (.aload_n 0), eS (.invokevirtual 153) 192 0 219, none, none, e1 (.iload_n 1), eA (.ifCond .ne 10) 3 36, none, 
  none, e1 (.aload_n 0), eG (.getfield 139) 11 10 10 93, none, none, eA (.goto 40) 3 73, none, none, e1 (.iload_n 1), eV (.iconst 1) 1 1, eA (.if_icmp .ne 10) 3 48, none, none, e1 (.aload_n 0), 
  eG (.getfield 143) 11 11 11 94, none, none, eA (.goto 28) 3 73, none, none, e1 (.aload_n 0), eG (.getfield 32) 11 8 8 91, none, none, e1 (.iload_n 1), eV (.iconst 2) 1 2, e1 .isub, e1 .iaload, eV (.iconst 3) 1 3, 
  eA (.if_icmp .ne 8) 3 65, none, none, some (.ldc 66, 2, 0, 0, -1000000005, 0, [(0, 26)]), none, eA (.goto 11) 3 73, none, none, e1 (.aload_n 0), eG (.getfield 32) 11 8 8 91, none, none, e1 (.iload_n 1), 
  eV (.iconst 2) 1 2, e1 .isub, e1 .iaload, e1 .ireturn]
set_option maxRecDepth 100000 in
def cd194 : Cd := [e1 (.aload_n 0), eS (.invokevirtual 153) 192 0 219, none, none, e1 (.iconst 0), e1 (.istore_n 1), e1 (.iconst 0), e1 (.istore_n 2), e1 (.iload_n 2), e1 (.aload_n 0), eS (.getfield 7) 11 0 83, none, none, 
  eV (.iconst 2) 1 2, e1 .iaload, eA (.if_icmp .ge 64) 3 79, none, none, e1 (.aload_n 0), eG (.getfield 32) 11 8 8 91, none, none, e1 (.iload_n 2), e1 .iaload, eV (.iconst 3) 1 3, eA (.if_icmp .ne 7) 3 32, none, none, 
  eV (.iconst (-1)) 1 (-1), eA (.goto 9) 3 38, none, none, e1 (.aload_n 0), eG (.getfield 32) 11 8 8 91, none, none, e1 (.iload_n 2), e1 .iaload, e1 (.istore_n 3), e1 (.aload_n 0), e1 (.iload_n 2), 
  eS (.invokevirtual 124) 172 1 214, none, none, eA (.ifCond .ne 29) 3 73, none, none, e1 (.aload_n 0), eS (.getfield 7) 11 0 83, none, none, e1 (.aload_n 0), e1 (.iload_n 2), eS (.invokevirtual 71) 164 1 205, none, none, 
  eV (.bipush 8) 2 8, none, e1 .iadd, e1 .iaload, e1 (.iload_n 3), eA (.if_icmp .eq 12) 3 73, none, none, e1 (.aload_n 0), e1 (.iload_n 2), e1 (.iload_n 3), eS (.invokevirtual 135) 188 2 217, none, none, eV (.iinc 1 1) 3 1, 
  none, none, eV (.iinc 2 1) 3 1, none, none, eA (.goto (-68)) 3 8, none, none, e1 (.iload_n 1), e1 .ireturn]
set_option maxRecDepth 100000 in
def cd195 : Cd := [e1 (.iconst 0), e1 (.istore_n 1), e1 (.iconst 0), e1 (.istore_n 2), e1 (.iload_n 2), e1 (.aload_n 0), eS (.getfield 7) 11 0 83, none, none, eV (.iconst 2) 1 2, e1 .iaload, eA (.if_icmp .ge 59) 3 70, none, none, 
  e1 (.iload_n 1), e1 (.aload_n 0), e1 (.iload_n 2), eS (.invokevirtual 124) 172 1 214, none, none, eA (.ifCond .ne 41) 3 61, none, none, e1 (.aload_n 0), eS (.getfield 7) 11 0 83, none, none, e1 (.aload_n 0), 
  e1 (.iload_n 2), eS (.invokevirtual 71) 164 1 205, none, none, eV (.bipush 6) 2 6, none, e1 .iadd, e1 .iaload, eA (.ifCond .ne 25) 3 61, none, none, e1 (.aload_n 0), eS (.getfield 7) 11 0 83, none, none, e1 (.aload_n 0), 
  e1 (.iload_n 2), eS (.invokevirtual 71) 164 1 205, none, none, eV (.bipush 8) 2 8, none, e1 .iadd, e1 .iaload, eA (.ifCond .ge 9) 3 61, none, none, eV (.iconst 1) 1 1, e1 (.iload_n 2), e1 .ishl, eA (.goto 4) 3 62, none, 
  none, e1 (.iconst 0), e1 .ior, e1 (.istore_n 1), eV (.iinc 2 1) 3 1, none, none, eA (.goto (-63)) 3 4, none, none, e1 (.iload_n 1), e1 .ireturn]
set_option maxRecDepth 100000 in
def cd196 : Cd := [e1 (.iload_n 0), eV (.iconst 5) 1 5, eA (.if_icmp .eq 9) 3 11, none, none, e1 (.iload_n 2), eA (.ifCond .eq 5) 3 11, none, none, e1 (.iconst 0), e1 .ireturn, e1 (.iload_n 0), 
  some (.tableswitch 66 0 4 #[36, 36, 46, 46, 56], 36, 78, 0, 0, 0, [(0, 48), (1, 48), (2, 58), (3, 58), (4, 68)]), none, none, none, none, none, none, none, none, none, none, none, none, none, none, none, none, none, none, 
  none, none, none, none, none, none, none, none, none, none, none, none, none, none, none, none, none, e1 (.iload_n 1), eA (.ifCond .ne 7) 3 56, none, none, eV (.iconst 1) 1 1, eA (.goto 4) 3 57, none, none, 
  e1 (.iconst 0), e1 .ireturn, e1 (.iload_n 1), e1 .i2l, e1 (.lconst 0), some (.ldc2_w 78, 3, 0, 0, 0, 3, [(0, 1)]), none, none, eS (.invokestatic 67) 159 3 194, none, none, e1 .ireturn, e1 (.iload_n 1), e1 .i2l, 
  e1 (.lconst 0), some (.ldc2_w 122, 3, 0, 0, 0, 9999, [(0, 6)]), none, none, eS (.invokestatic 67) 159 3 194, none, none, e1 .ireturn, e1 (.iload_n 0), eV (.iconst 5) 1 5, eA (.if_icmp .ne 31) 3 111, none, none, 
  e1 (.iload_n 1), e1 .i2l, some (.lconst 1, 1, 0, 0, 0, 1, []), some (.ldc2_w 122, 3, 0, 0, 0, 9999, [(0, 6)]), none, none, eS (.invokestatic 67) 159 3 194, none, none, eA (.ifCond .eq 19) 3 111, none, none, 
  e1 (.iload_n 2), e1 .i2l, e1 (.lconst 0), some (.ldc2_w 112, 3, 0, 0, 0, 999, [(0, 4)]), none, none, eS (.invokestatic 67) 159 3 194, none, none, eA (.ifCond .eq 7) 3 111, none, none, eV (.iconst 1) 1 1, 
  eA (.goto 4) 3 112, none, none, e1 (.iconst 0), e1 .ireturn]
set_option maxRecDepth 100000 in
def cd197 : Cd := [e1 (.aload_n 0), e1 (.iload_n 2), eS (.invokevirtual 92) 168 1 197, none, none, eA (.ifCond .eq 13) 3 18, none, none, e1 (.iload_n 1), e1 (.iload_n 3), e2 (.iload 4), none, eS (.invokestatic 156) 196 3 225, none, none, 
  eA (.ifCond .ne 6) 3 21, none, none, some (.ldc 87, 2, 0, 0, -1000000001, 0, [(0, 24)]), none, e1 .ireturn, e1 (.aload_n 0), eS (.getfield 7) 11 0 83, none, none, eV (.iconst 3) 1 3, e1 .iaload, eV (.bipush 30) 2 30, 
  none, eA (.if_icmp .ne 6) 3 35, none, none, some (.ldc 88, 2, 0, 0, -1000000003, 0, [(0, 25)]), none, e1 .ireturn, e1 (.aload_n 0), e1 (.aload_n 0), eS (.getfield 7) 11 0 83, none, none, eV (.iconst 3) 1 3, e1 .iaload, 
  eS (.invokevirtual 75) 165 1 203, none, none, e2 (.istore 5), none, e1 (.iconst 0), e2 (.istore 6), none, e2 (.iload 6), none, eV (.bipush 9) 2 9, none, eA (.if_icmp .ge 20) 3 74, none, none, e1 (.aload_n 0), 
  eS (.getfield 7) 11 0 83, none, none, e2 (.iload 5), none, e2 (.iload 6), none, e1 .iadd, e1 (.iconst 0), e1 .iastore, eV (.iinc 6 1) 3 1, none, none, eA (.goto (-21)) 3 50, none, none, e1 (.aload_n 0), 
  eS (.getfield 7) 11 0 83, none, none, e2 (.iload 5), none, e1 (.iload_n 1), e1 .iastore, e1 (.aload_n 0), eS (.getfield 7) 11 0 83, none, none, e2 (.iload 5), none, eV (.iconst 1) 1 1, e1 .iadd, e1 (.iload_n 2), 
  e1 .iastore, e1 (.aload_n 0), eS (.getfield 7) 11 0 83, none, none, e2 (.iload 5), none, eV (.iconst 2) 1 2, e1 .iadd, e1 (.iload_n 3), e1 .iastore, e1 (.aload_n 0), eS (.getfield 7) 11 0 83, none, none, e2 (.iload 5), 
  none, eV (.iconst 3) 1 3, e1 .iadd, e2 (.iload 4), none, e1 .iastore, e1 (.aload_n 0), eS (.getfield 7) 11 0 83, none, none, e2 (.iload 5), none, eV (.iconst 5) 1 5, e1 .iadd, eV (.iconst (-1)) 1 (-1), e1 .iastore, 
  e1 (.aload_n 0), eS (.getfield 7) 11 0 83, none, none, e2 (.iload 5), none, eV (.bipush 6) 2 6, none, e1 .iadd, eV (.iconst (-1)) 1 (-1), e1 .iastore, e1 (.aload_n 0), eS (.getfield 7) 11 0 83, none, none, 
  eV (.iconst 3) 1 3, e1 .dup2, e1 .iaload, eV (.iconst 1) 1 1, e1 .iadd, e1 .iastore, e1 (.aload_n 0), eS (.getfield 7) 11 0 83, none, none, eV (.iconst 3) 1 3, e1 .iaload, eV (.iconst 1) 1 1, e1 .isub, e1 .ireturn]
set_option maxRecDepth 100000 in
def cd198 : Cd := [e1 (.aload_n 0), e1 (.iload_n 1), eS (.invokevirtual 160) 170 1 227, none, none, eA (.ifCond .eq 15) 3 20, none, none, e1 (.iload_n 2), e1 .i2l, e1 (.lconst 0), some (.ldc2_w 163, 3, 0, 0, 0, 6, [(0, 7)]), none, none, 
  eS (.invokestatic 67) 159 3 194, none, none, eA (.ifCond .ne 6) 3 23, none, none, some (.ldc 87, 2, 0, 0, -1000000001, 0, [(0, 24)]), none, e1 .ireturn, e1 (.aload_n 0), eS (.getfield 7) 11 0 83, none, none, 
  e1 (.aload_n 0), e1 (.iload_n 1), eS (.invokevirtual 75) 165 1 203, none, none, e1 (.iload_n 2), e1 .iadd, e1 .iaload, e1 (.istore_n 3), e1 (.iload_n 2), eV (.iconst 5) 1 5, eA (.if_icmp .eq 9) 3 47, none, none, 
  e1 (.iload_n 2), eV (.bipush 6) 2 6, none, eA (.if_icmp .ne 10) 3 54, none, none, e1 (.iload_n 3), eS (.invokestatic 119) 160 1 209, none, none, eA (.goto 4) 3 55, none, none, e1 (.iload_n 3), e1 .ireturn]
set_option maxRecDepth 100000 in
def cd199 : Cd := [e1 (.aload_n 0), e1 (.iload_n 1), eS (.invokevirtual 160) 170 1 227, none, none, eA (.ifCond .eq 15) 3 20, none, none, e1 (.iload_n 2), e1 .i2l, e1 (.lconst 0), some (.ldc2_w 85, 3, 0, 0, 0, 5, [(0, 0)]), none, none, 
  eS (.invokestatic 67) 159 3 194, none, none, eA (.ifCond .ne 6) 3 23, none, none, some (.ldc 87, 2, 0, 0, -1000000001, 0, [(0, 24)]), none, e1 .ireturn, e1 (.aload_n 0), eS (.getfield 7) 11 0 83, none, none, 
  e1 (.aload_n 0), e1 (.iload_n 1), eS (.invokevirtual 75) 165 1 203, none, none, e1 .iaload, e1 (.istore_n 3), e1 (.iload_n 2), eA (.ifCond .eq 33) 3 68, none, none, e1 (.iload_n 2), e1 (.iload_n 3), 
  eA (.if_icmp .eq 28) 3 68, none, none, e1 (.iload_n 2), eV (.iconst 3) 1 3, eA (.if_icmp .ge 13) 3 58, none, none, e1 (.iload_n 3), eV (.iconst 3) 1 3, eA (.if_icmp .gt 8) 3 58, none, none, e1 (.iload_n 3), 
  e1 (.iload_n 2), eA (.if_icmp .gt 13) 3 68, none, none, e1 (.iload_n 2), eV (.iconst 4) 1 4, eA (.if_icmp .ne 12) 3 72, none, none, e1 (.iload_n 3), eV (.iconst 5) 1 5, eA (.if_icmp .ne 7) 3 72, none, none, 
  eV (.iconst 1) 1 1, eA (.goto 4) 3 73, none, none, e1 (.iconst 0), e2 (.istore 4), none, e2 (.iload 4), none, eA (.ifCond .eq 18) 3 95, none, none, e1 (.aload_n 0), eS (.getfield 7) 11 0 83, none, none, e1 (.aload_n 0), 
  e1 (.iload_n 1), eS (.invokevirtual 75) 165 1 203, none, none, eV (.iconst 2) 1 2, e1 .iadd, e1 .iaload, eA (.goto 5) 3 97, none, none, some (.ldc 165, 2, 0, 0, -1000000012, 0, [(0, 28)]), none, e1 .ireturn]
set_option maxRecDepth 100000 in
def cd200 : Cd := [e1 (.aload_n 0), e1 (.iload_n 1), eS (.invokevirtual 160) 170 1 227, none, none, eA (.ifCond .eq 11) 3 16, none, none, e1 (.aload_n 0), e1 (.iload_n 2), eS (.invokevirtual 114) 169 1 208, none, none, 
  eA (.ifCond .ne 6) 3 19, none, none, some (.ldc 87, 2, 0, 0, -1000000001, 0, [(0, 24)]), none, e1 .ireturn, e1 (.aload_n 0), e1 (.iload_n 1), eS (.invokevirtual 101) 173 1 202, none, none, eA (.ifCond .ne 6) 3 30, none, 
  none, some (.ldc 165, 2, 0, 0, -1000000012, 0, [(0, 28)]), none, e1 .ireturn, e1 (.aload_n 0), e1 (.iload_n 1), eS (.invokevirtual 75) 165 1 203, none, none, e1 (.istore_n 3), e1 (.aload_n 0), e1 (.aload_n 0), 
  eS (.getfield 7) 11 0 83, none, none, e1 (.iload_n 3), eV (.iconst 1) 1 1, e1 .iadd, e1 .iaload, eS (.invokevirtual 89) 163 1 195, none, none, e2 (.istore 4), none, e1 (.aload_n 0), eS (.getfield 7) 11 0 83, none, none, 
  e1 (.iload_n 3), e1 .iaload, eV (.iconst 1) 1 1, eA (.if_icmp .le 30) 3 87, none, none, e1 (.aload_n 0), eS (.getfield 7) 11 0 83, none, none, e1 (.aload_n 0), e1 (.iload_n 2), eS (.invokevirtual 71) 164 1 205, none, 
  none, e1 (.iconst 0), e1 .iadd, e1 .iaload, e1 (.aload_n 0), eS (.getfield 7) 11 0 83, none, none, e1 (.iload_n 3), eV (.iconst 2) 1 2, e1 .iadd, e1 .iaload, eA (.if_icmp .le 7) 3 87, none, none, eV (.iconst 1) 1 1, 
  eA (.goto 4) 3 88, none, none, e1 (.iconst 0), e2 (.istore 5), none, e1 (.aload_n 0), eS (.getfield 7) 11 0 83, none, none, e1 (.iload_n 3), eV (.iconst 4) 1 4, e1 .iadd, e1 .iaload, eA (.ifCond .ne 58) 3 156, none, none, 
  e1 (.aload_n 0), eS (.getfield 7) 11 0 83, none, none, e1 (.aload_n 0), e1 (.iload_n 2), eS (.invokevirtual 71) 164 1 205, none, none, eV (.bipush 8) 2 8, none, e1 .iadd, e1 .iaload, e1 (.aload_n 0), 
  eS (.getfield 7) 11 0 83, none, none, e1 (.iload_n 3), eV (.iconst 1) 1 1, e1 .iadd, e1 .iaload, eA (.if_icmp .ne 34) 3 156, none, none, e1 (.aload_n 0), eS (.getfield 7) 11 0 83, none, none, e2 (.iload 4), none, 
  eV (.bipush 7) 2 7, none, e1 .iadd, e1 .iaload, eV (.iconst 1) 1 1, eA (.if_icmp .eq 20) 3 156, none, none, e1 (.aload_n 0), eS (.getfield 7) 11 0 83, none, none, e2 (.iload 4), none, eV (.iconst 4) 1 4, e1 .iadd, 
  e1 .iaload, eA (.ifCond .gt 8) 3 156, none, none, e2 (.iload 5), none, eA (.ifCond .eq 6) 3 159, none, none, some (.ldc 134, 2, 0, 0, -1000000002, 0, [(0, 27)]), none, e1 .ireturn, e1 (.aload_n 0), 
  eS (.getfield 7) 11 0 83, none, none, e1 (.iload_n 3), eV (.iconst 4) 1 4, e1 .iadd, eV (.iconst 1) 1 1, e1 .iastore, e1 (.aload_n 0), eS (.getfield 7) 11 0 83, none, none, e1 (.iload_n 3), eV (.iconst 5) 1 5, e1 .iadd, 
  e1 (.iload_n 2), e1 .iastore, e1 (.iconst 0), e2 (.istore 6), none, e1 (.iconst 0), e2 (.istore 7), none, e2 (.iload 7), none, e1 (.aload_n 0), eS (.getfield 7) 11 0 83, none, none, eV (.iconst 3) 1 3, e1 .iaload, 
  eA (.if_icmp .ge 53) 3 244, none, none, e2 (.iload 6), none, e1 (.aload_n 0), eS (.getfield 7) 11 0 83, none, none, e1 (.aload_n 0), e2 (.iload 7), none, eS (.invokevirtual 75) 165 1 203, none, none, eV (.iconst 4) 1 4, 
  e1 .iadd, e1 .iaload, eV (.iconst 1) 1 1, eA (.if_icmp .ne 24) 3 234, none, none, e1 (.aload_n 0), eS (.getfield 7) 11 0 83, none, none, e1 (.aload_n 0), e2 (.iload 7), none, eS (.invokevirtual 75) 165 1 203, none, none, 
  eV (.iconst 5) 1 5, e1 .iadd, e1 .iaload, e1 (.iload_n 2), eA (.if_icmp .ne 7) 3 234, none, none, eV (.iconst 1) 1 1, eA (.goto 4) 3 235, none, none, e1 (.iconst 0), e1 .iadd, e2 (.istore 6), none, eV (.iinc 7 1) 3 1, 
  none, none, eA (.goto (-58)) 3 183, none, none, e2 (.iload 6), none, e1 .ireturn]
set_option maxRecDepth 100000 in
def cd201 : Cd := [e1 (.aload_n 0), e1 (.iload_n 1), eS (.invokevirtual 160) 170 1 227, none, none, eA (.ifCond .ne 6) 3 11, none, none, some (.ldc 87, 2, 0, 0, -1000000001, 0, [(0, 24)]), none, e1 .ireturn, e1 (.aload_n 0), 
  e1 (.iload_n 1), eS (.invokevirtual 101) 173 1 202, none, none, eA (.ifCond .ne 6) 3 22, none, none, some (.ldc 165, 2, 0, 0, -1000000012, 0, [(0, 28)]), none, e1 .ireturn, e1 (.aload_n 0), e1 (.iload_n 1), 
  eS (.invokevirtual 75) 165 1 203, none, none, e1 (.istore_n 2), e1 (.aload_n 0), eS (.getfield 7) 11 0 83, none, none, e1 (.iload_n 2), eV (.iconst 4) 1 4, e1 .iadd, e1 .iaload, eA (.ifCond .ne 6) 3 42, none, none, 
  some (.ldc 134, 2, 0, 0, -1000000002, 0, [(0, 27)]), none, e1 .ireturn, e1 (.aload_n 0), eS (.getfield 7) 11 0 83, none, none, e1 (.iload_n 2), eV (.iconst 5) 1 5, e1 .iadd, eV (.iconst (-1)) 1 (-1), e1 .iastore, 
  e1 (.aload_n 0), e1 (.iload_n 2), eV (.iconst 4) 1 4, e1 .iadd, e1 (.iconst 0), eS (.invokevirtual 98) 162 2 198, none, none, e1 .ireturn]
set_option maxRecDepth 100000 in
def cd202 : Cd := [e1 (.aload_n 0), e1 (.iload_n 1), eS (.invokevirtual 92) 168 1 197, none, none, eA (.ifCond .eq 22) 3 27, none, none, e1 (.iload_n 2), e1 .i2l, e1 (.lconst 0), some (.lconst 1, 1, 0, 0, 0, 1, []), e1 (.aload_n 0), 
  e1 (.iload_n 1), eV (.iconst (-1)) 1 (-1), eS (.invokevirtual 106) 179 2 201, none, none, e1 .lshl, some (.lconst 1, 1, 0, 0, 0, 1, []), e1 .lsub, eS (.invokestatic 67) 159 3 194, none, none, eA (.ifCond .ne 6) 3 30, 
  none, none, some (.ldc 87, 2, 0, 0, -1000000001, 0, [(0, 24)]), none, e1 .ireturn, e1 (.iconst 0), e1 (.istore_n 3), e1 (.iconst 0), e2 (.istore 4), none, e1 (.iconst 0), e2 (.istore 5), none, e2 (.iload 5), none, 
  e1 (.aload_n 0), eS (.getfield 7) 11 0 83, none, none, eV (.iconst 3) 1 3, e1 .iaload, eA (.if_icmp .ge 179) 3 225, none, none, e1 (.aload_n 0), e2 (.iload 5), none, eS (.invokevirtual 75) 165 1 203, none, none, 
  e2 (.istore 6), none, e1 (.aload_n 0), e2 (.iload 5), none, eS (.invokevirtual 101) 173 1 202, none, none, eA (.ifCond .eq 156) 3 219, none, none, e1 (.aload_n 0), eS (.getfield 7) 11 0 83, none, none, e2 (.iload 6), 
  none, eV (.iconst 1) 1 1, e1 .iadd, e1 .iaload, e1 (.iload_n 1), eA (.if_icmp .eq 6) 3 82, none, none, eA (.goto 140) 3 219, none, none, e1 (.iload_n 2), e1 (.iload_n 3), e1 .ishr, eV (.iconst 1) 1 1, e1 .iand, 
  eV (.iconst 1) 1 1, eA (.if_icmp .ne 7) 3 95, none, none, eV (.iconst 1) 1 1, eA (.goto 4) 3 96, none, none, e1 (.iconst 0), e2 (.istore 7), none, e1 (.aload_n 0), eS (.getfield 7) 11 0 83, none, none, e2 (.iload 6), 
  none, eV (.iconst 4) 1 4, e1 .iadd, e1 .iaload, eA (.ifCond .ne 12) 3 119, none, none, e2 (.iload 7), none, eA (.ifCond .ne 7) 3 119, none, none, eV (.iconst 1) 1 1, eA (.goto 4) 3 120, none, none, e1 (.iconst 0), 
  e2 (.istore 8), none, e2 (.iload 4), none, e2 (.iload 8), none, eA (.ifCond .ne 21) 3 147, none, none, e1 (.aload_n 0), eS (.getfield 7) 11 0 83, none, none, e2 (.iload 6), none, eV (.iconst 4) 1 4, e1 .iadd, e1 .iaload, 
  eV (.iconst 1) 1 1, eA (.if_icmp .ne 12) 3 151, none, none, e2 (.iload 7), none, eA (.ifCond .eq 7) 3 151, none, none, eV (.iconst 1) 1 1, eA (.goto 4) 3 152, none, none, e1 (.iconst 0), e1 .iadd, e2 (.istore 4), none, 
  e1 (.aload_n 0), eS (.getfield 7) 11 0 83, none, none, e2 (.iload 6), none, eV (.iconst 4) 1 4, e1 .iadd, e2 (.iload 8), none, eA (.ifCond .eq 21) 3 186, none, none, e1 (.aload_n 0), eS (.getfield 7) 11 0 83, none, none, 
  e2 (.iload 6), none, eV (.bipush 7) 2 7, none, e1 .iadd, e1 .iaload, eV (.iconst 1) 1 1, eA (.if_icmp .ne 7) 3 186, none, none, eV (.iconst 2) 1 2, eA (.goto 12) 3 195, none, none, e1 (.aload_n 0), 
  eS (.getfield 7) 11 0 83, none, none, e2 (.iload 6), none, eV (.iconst 4) 1 4, e1 .iadd, e1 .iaload, e1 .iastore, e1 (.aload_n 0), eS (.getfield 7) 11 0 83, none, none, e2 (.iload 6), none, eV (.bipush 7) 2 7, none, 
  e1 .iadd, e2 (.iload 8), none, eA (.ifCond .eq 7) 3 214, none, none, eV (.iconst 1) 1 1, eA (.goto 4) 3 215, none, none, e1 (.iconst 0), e1 .iastore, eV (.iinc 3 1) 3 1, none, none, eV (.iinc 5 1) 3 1, none, none, 
  eA (.goto (-184)) 3 38, none, none, e1 (.aload_n 0), eS (.getfield 7) 11 0 83, none, none, e1 (.aload_n 0), e1 (.iload_n 1), eS (.invokevirtual 89) 163 1 195, none, none, eV (.bipush 7) 2 7, none, e1 .iadd, e2 (.iload 4), 
  none, eA (.ifCond .le 7) 3 246, none, none, eV (.iconst 1) 1 1, eA (.goto 4) 3 247, none, none, e1 (.iconst 0), e1 .iastore, e2 (.iload 4), none, e1 .ireturn]
set_option maxRecDepth 100000 in
def cd203 : Cd := [e1 (.aload_n 0), e1 (.iload_n 1), eS (.invokevirtual 92) 168 1 197, none, none, eA (.ifCond .ne 6) 3 11, none, none, some (.ldc 87, 2, 0, 0, -1000000001, 0, [(0, 24)]), none, e1 .ireturn, e1 (.iconst 0), e1 (.istore_n 2), 
  e1 (.iconst 0), e1 (.istore_n 3), e1 (.iload_n 3), e1 (.aload_n 0), eS (.getfield 7) 11 0 83, none, none, eV (.iconst 3) 1 3, e1 .iaload, eA (.if_icmp .ge 60) 3 82, none, none, e1 (.aload_n 0), e1 (.iload_n 3), 
  eS (.invokevirtual 75) 165 1 203, none, none, e2 (.istore 4), none, e1 (.iload_n 2), e1 (.aload_n 0), eS (.getfield 7) 11 0 83, none, none, e2 (.iload 4), none, eV (.iconst 1) 1 1, e1 .iadd, e1 .iaload, e1 (.iload_n 1), 
  eA (.if_icmp .ne 30) 3 73, none, none, e1 (.aload_n 0), eS (.getfield 7) 11 0 83, none, none, e2 (.iload 4), none, eV (.iconst 4) 1 4, e1 .iadd, e1 .iaload, eV (.iconst 1) 1 1, eA (.if_icmp .ne 17) 3 73, none, none, 
  eV (.iconst 1) 1 1, e1 (.aload_n 0), eS (.getfield 7) 11 0 83, none, none, e2 (.iload 4), none, eV (.iconst 5) 1 5, e1 .iadd, e1 .iaload, e1 .ishl, eA (.goto 4) 3 74, none, none, e1 (.iconst 0), e1 .ior, e1 (.istore_n 2), 
  eV (.iinc 3 1) 3 1, none, none, eA (.goto (-64)) 3 15, none, none, e1 (.iload_n 2), e1 .ireturn]
set_option maxRecDepth 100000 in
def cd204 : Cd := [e1 (.aload_n 0), e1 (.iload_n 1), eS (.invokevirtual 160) 170 1 227, none, none, eA (.ifCond .ne 6) 3 11, none, none, some (.ldc 87, 2, 0, 0, -1000000001, 0, [(0, 24)]), none, e1 .ireturn, e1 (.aload_n 0), 
  e1 (.iload_n 1), eS (.invokevirtual 75) 165 1 203, none, none, e1 (.istore_n 2), e1 (.aload_n 0), eS (.getfield 7) 11 0 83, none, none, e1 (.iload_n 2), e1 .iaload, eV (.iconst 5) 1 5, eA (.if_icmp .eq 8) 3 32, none, 
  none, some (.ldc 165, 2, 0, 0, -1000000012, 0, [(0, 28)]), none, eA (.goto 42) 3 71, none, none, e1 (.aload_n 0), eS (.getfield 7) 11 0 83, none, none, e1 (.iload_n 2), eV (.bipush 6) 2 6, none, e1 .iadd, e1 .iaload, 
  eA (.ifCond .ge 12) 3 53, none, none, e1 (.aload_n 0), eS (.getfield 7) 11 0 83, none, none, e1 (.iconst 0), e1 .iaload, eA (.goto 12) 3 62, none, none, e1 (.aload_n 0), eS (.getfield 7) 11 0 83, none, none, 
  e1 (.iload_n 2), eV (.bipush 6) 2 6, none, e1 .iadd, e1 .iaload, e1 (.aload_n 0), eS (.getfield 7) 11 0 83, none, none, e1 (.iload_n 2), eV (.iconst 3) 1 3, e1 .iadd, e1 .iaload, e1 .isub, e1 .ireturn]
set_option maxRecDepth 100000 in
def cd205 : Cd := [eV (.iconst (-1)) 1 (-1), e1 (.istore_n 2), e1 (.iconst 0), e1 (.istore_n 3), e1 (.iload_n 3), e1 (.aload_n 0), eS (.getfield 7) 11 0 83, none, none, eV (.iconst 3) 1 3, e1 .iaload, eA (.if_icmp .ge 108) 3 119, none, 
  none, e1 (.aload_n 0), e1 (.iload_n 3), eS (.invokevirtual 75) 165 1 203, none, none, e2 (.istore 4), none, e1 (.aload_n 0), eS (.getfield 7) 11 0 83, none, none, e2 (.iload 4), none, e1 .iaload, eV (.iconst 5) 1 5, 
  eA (.if_icmp .ne 42) 3 71, none, none, e1 (.aload_n 0), eS (.getfield 7) 11 0 83, none, none, e2 (.iload 4), none, eV (.iconst 1) 1 1, e1 .iadd, e1 .iaload, e1 (.iload_n 1), eA (.if_icmp .ne 29) 3 71, none, none, 
  e1 (.aload_n 0), eS (.getfield 7) 11 0 83, none, none, e2 (.iload 4), none, eV (.bipush 6) 2 6, none, e1 .iadd, e1 .iaload, eA (.ifCond .ge 16) 3 71, none, none, e1 (.aload_n 0), eG (.getfield 38) 11 12 12 95, none, none, 
  e1 (.iload_n 3), e1 .baload, eA (.ifCond .ne 7) 3 71, none, none, eV (.iconst 1) 1 1, eA (.goto 4) 3 72, none, none, e1 (.iconst 0), e2 (.istore 5), none, e2 (.iload 5), none, eA (.ifCond .eq 35) 3 111, none, none, 
  e1 (.iload_n 2), eA (.ifCond .lt 27) 3 107, none, none, e1 (.aload_n 0), eS (.getfield 7) 11 0 83, none, none, e2 (.iload 4), none, eV (.iconst 3) 1 3, e1 .iadd, e1 .iaload, e1 (.aload_n 0), eS (.getfield 7) 11 0 83, 
  none, none, e1 (.aload_n 0), e1 (.iload_n 2), eS (.invokevirtual 75) 165 1 203, none, none, eV (.iconst 3) 1 3, e1 .iadd, e1 .iaload, eA (.if_icmp .ge 7) 3 111, none, none, e1 (.iload_n 3), eA (.goto 4) 3 112, none, none, 
  e1 (.iload_n 2), e1 (.istore_n 2), eV (.iinc 3 1) 3 1, none, none, eA (.goto (-112)) 3 4, none, none, e1 (.iload_n 2), e1 .ireturn]
set_option maxRecDepth 100000 in
def cd206 : Cd := [e1 (.aload_n 0), e1 (.iload_n 1), eS (.invokevirtual 92) 168 1 197, none, none, eA (.ifCond .ne 6) 3 11, none, none, some (.ldc 87, 2, 0, 0, -1000000001, 0, [(0, 24)]), none, e1 .ireturn, e1 (.iconst 0), e1 (.istore_n 2), 
  e1 (.iload_n 2), eV (.bipush 30) 2 30, none, eA (.if_icmp .ge 16) 3 32, none, none, e1 (.aload_n 0), eG (.getfield 38) 11 12 12 95, none, none, e1 (.iload_n 2), e1 (.iconst 0), e1 .bastore, eV (.iinc 2 1) 3 1, none, none, 
  eA (.goto (-16)) 3 13, none, none, e1 (.iconst 0), e1 (.istore_n 2), e1 (.iload_n 2), e1 (.aload_n 0), eS (.getfield 7) 11 0 83, none, none, eV (.iconst 2) 1 2, e1 .iaload, eA (.if_icmp .ge 46) 3 87, none, none, 
  e1 (.aload_n 0), eG (.getfield 42) 11 13 13 96, none, none, e1 (.iload_n 2), e1 (.aload_n 0), eS (.getfield 7) 11 0 83, none, none, e1 (.aload_n 0), e1 (.iload_n 2), eS (.invokevirtual 71) 164 1 205, none, none, 
  eV (.iconst 1) 1 1, e1 .iadd, e1 .iaload, e1 .iastore, e1 (.aload_n 0), eG (.getfield 45) 11 14 14 97, none, none, e1 (.iload_n 2), e1 (.aload_n 0), eS (.getfield 7) 11 0 83, none, none, e1 (.aload_n 0), e1 (.iload_n 2), 
  eS (.invokevirtual 71) 164 1 205, none, none, eV (.bipush 7) 2 7, none, e1 .iadd, e1 .iaload, e1 .iastore, eV (.iinc 2 1) 3 1, none, none, eA (.goto (-50)) 3 34, none, none, e1 (.aload_n 0), eS (.getfield 7) 11 0 83, 
  none, none, e1 (.aload_n 0), e1 (.iload_n 1), eS (.invokevirtual 89) 163 1 195, none, none, eV (.bipush 6) 2 6, none, e1 .iadd, e1 .iaload, e1 (.istore_n 2), some (.ldc 66, 2, 0, 0, -1000000005, 0, [(0, 26)]), none, 
  e1 (.istore_n 3), e1 (.iconst 0), e2 (.istore 4), none, e2 (.iload 4), none, eV (.sipush 1000) 3 1000, none, none, eA (.if_icmp .ge 238) 3 350, none, none, e1 (.iload_n 3), 
  some (.ldc 66, 2, 0, 0, -1000000005, 0, [(0, 26)]), none, eA (.if_icmp .ne 232) 3 350, none, none, e1 (.iconst 0), e2 (.istore 5), none, e2 (.iload 5), none, e1 (.aload_n 0), eS (.getfield 7) 11 0 83, none, none, 
  eV (.iconst 2) 1 2, e1 .iaload, eA (.if_icmp .ge 129) 3 261, none, none, e1 (.aload_n 0), eS (.getfield 7) 11 0 83, none, none, e1 (.aload_n 0), e2 (.iload 5), none, eS (.invokevirtual 71) 164 1 205, none, none, 
  eV (.bipush 8) 2 8, none, e1 .iadd, e1 .iaload, e1 (.iload_n 1), eA (.if_icmp .ne 105) 3 255, none, none, e1 (.iload_n 2), e1 (.aload_n 0), eS (.getfield 7) 11 0 83, none, none, e1 (.aload_n 0), e1 (.iload_n 1), 
  eS (.invokevirtual 89) 163 1 195, none, none, eV (.iconst 3) 1 3, e1 .iadd, e1 .iaload, e1 (.aload_n 0), eG (.getfield 42) 11 13 13 96, none, none, e2 (.iload 5), none, e1 .iaload, e1 .iadd, e1 .iadd, e1 (.istore_n 2), 
  e1 (.aload_n 0), eG (.getfield 45) 11 14 14 97, none, none, e2 (.iload 5), none, e1 .dup2, e1 .iaload, eV (.iconst 1) 1 1, e1 .iadd, e1 .iastore, e1 (.aload_n 0), eG (.getfield 42) 11 13 13 96, none, none, e2 (.iload 5), 
  none, e1 .dup2, e1 .iaload, e1 (.aload_n 0), eG (.getfield 45) 11 14 14 97, none, none, e2 (.iload 5), none, e1 .iaload, eV (.bipush 10) 2 10, none, eA (.if_icmp .ne 18) 3 222, none, none, e1 (.aload_n 0), 
  eG (.getfield 42) 11 13 13 96, none, none, e2 (.iload 5), none, e1 .iaload, eV (.iconst 3) 1 3, eA (.if_icmp .ge 7) 3 222, none, none, eV (.iconst 1) 1 1, eA (.goto 4) 3 223, none, none, e1 (.iconst 0), e1 .iadd, 
  e1 .iastore, e1 (.aload_n 0), eG (.getfield 45) 11 14 14 97, none, none, e2 (.iload 5), none, e1 (.aload_n 0), eG (.getfield 45) 11 14 14 97, none, none, e2 (.iload 5), none, e1 .iaload, eV (.bipush 10) 2 10, none, 
  eA (.if_icmp .ne 7) 3 247, none, none, e1 (.iconst 0), eA (.goto 10) 3 254, none, none, e1 (.aload_n 0), eG (.getfield 45) 11 14 14 97, none, none, e2 (.iload 5), none, e1 .iaload, e1 .iastore, eV (.iinc 5 1) 3 1, none, 
  none, eA (.goto (-134)) 3 124, none, none, e1 (.aload_n 0), e1 (.iload_n 1), eS (.invokevirtual 166) 205 1 235, none, none, e2 (.istore 5), none, e2 (.iload 5), none, eA (.ifCond .lt 54) 3 324, none, none, 
  e1 (.iload_n 2), e1 (.aload_n 0), eS (.getfield 7) 11 0 83, none, none, e1 (.aload_n 0), e2 (.iload 5), none, eS (.invokevirtual 75) 165 1 203, none, none, eV (.iconst 2) 1 2, e1 .iadd, e1 .iaload, 
  eA (.if_icmp .lt 37) 3 324, none, none, e1 (.iload_n 2), e1 (.aload_n 0), eS (.getfield 7) 11 0 83, none, none, e1 (.aload_n 0), e2 (.iload 5), none, eS (.invokevirtual 75) 165 1 203, none, none, eV (.iconst 2) 1 2, 
  e1 .iadd, e1 .iaload, e1 .isub, e1 (.istore_n 2), e1 (.aload_n 0), eG (.getfield 38) 11 12 12 95, none, none, e2 (.iload 5), none, eV (.iconst 1) 1 1, e1 .bastore, e1 (.aload_n 0), e1 (.iload_n 1), 
  eS (.invokevirtual 166) 205 1 235, none, none, e2 (.istore 5), none, eA (.goto (-53)) 3 268, none, none, e2 (.iload 5), none, eA (.ifCond .ge 15) 3 341, none, none, e1 (.aload_n 0), eS (.getfield 7) 11 0 83, none, none, 
  e1 (.iconst 0), e1 .iaload, e2 (.iload 4), none, e1 .iadd, eA (.goto 5) 3 343, none, none, some (.ldc 66, 2, 0, 0, -1000000005, 0, [(0, 26)]), none, e1 (.istore_n 3), eV (.iinc 4 1) 3 1, none, none, 
  eA (.goto (-240)) 3 107, none, none, e1 (.iconst 0), e2 (.istore 4), none, e2 (.iload 4), none, eV (.bipush 30) 2 30, none, eA (.if_icmp .ge 17) 3 374, none, none, e1 (.aload_n 0), eG (.getfield 38) 11 12 12 95, none, 
  none, e2 (.iload 4), none, e1 (.iconst 0), e1 .bastore, eV (.iinc 4 1) 3 1, none, none, eA (.goto (-18)) 3 353, none, none, e1 (.iload_n 3), e1 .ireturn]
set_option maxRecDepth 100000 in
def cd207 : Cd := [e1 (.aload_n 0), eG (.getfield 169) 11 16 16 99, none, none, eV (.bipush 12) 2 12, none, e1 .iadd, eV (.bipush 96) 2 96, none, eA (.if_icmp .le 6) 3 15, none, none, some (.ldc 88, 2, 0, 0, -1000000003, 0, [(0, 25)]), 
  none, e1 .ireturn, e1 (.iconst 0), e2 (.istore 4), none, e2 (.iload 4), none, eV (.bipush 12) 2 12, none, eA (.if_icmp .ge 69) 3 91, none, none, e2 (.iload 4), none, eV (.iconst 4) 1 4, eA (.if_icmp .ge 7) 3 35, none, 
  none, e1 (.iload_n 1), eA (.goto 15) 3 47, none, none, e2 (.iload 4), none, eV (.bipush 8) 2 8, none, eA (.if_icmp .ge 7) 3 46, none, none, e1 (.iload_n 2), eA (.goto 4) 3 47, none, none, e1 (.iload_n 3), e2 (.istore 5), 
  none, e1 (.aload_n 0), eG (.getfield 48) 11 15 15 98, none, none, e1 (.aload_n 0), eG (.getfield 169) 11 16 16 99, none, none, e2 (.iload 5), none, eV (.bipush 24) 2 24, none, eV (.bipush 8) 2 8, none, e2 (.iload 4), 
  none, eV (.iconst 4) 1 4, e1 .irem, e1 .imul, e1 .isub, e1 .ishr, eV (.sipush 255) 3 255, none, none, e1 .iand, e1 .iastore, e1 (.aload_n 0), e1 .dup, eG (.getfield 169) 11 16 16 99, none, none, eV (.iconst 1) 1 1, 
  e1 .iadd, eG (.putfield 169) 11 16 16 99, none, none, eV (.iinc 4 1) 3 1, none, none, eA (.goto (-70)) 3 18, none, none, e1 (.aload_n 0), eG (.getfield 169) 11 16 16 99, none, none, e1 .ireturn]
set_option maxRecDepth 100000 in
def cd208 : Cd := [e1 (.iload_n 1), e1 .i2l, e1 (.lconst 0), e1 (.aload_n 0), eG (.getfield 169) 11 16 16 99, none, none, e1 .i2l, eS (.invokestatic 67) 159 3 194, none, none, eA (.ifCond .ne 6) 3 17, none, none, 
  some (.ldc 87, 2, 0, 0, -1000000001, 0, [(0, 24)]), none, e1 .ireturn, e1 (.aload_n 0), e1 (.iload_n 1), eG (.putfield 169) 11 16 16 99, none, none, e1 (.iload_n 1), e1 .ireturn]
set_option maxRecDepth 100000 in
def cd209 : Cd := [e1 (.iload_n 1), e1 (.aload_n 0), eG (.getfield 169) 11 16 16 99, none, none, eA (.if_icmp .ge 26) 3 31, none, none, e1 (.aload_n 0), eG (.getfield 48) 11 15 15 98, none, none, e1 (.iload_n 1), e1 .iaload, e1 .i2l, 
  some (.ldc2_w 172, 3, 0, 0, 0, 97, [(0, 8)]), none, none, some (.ldc2_w 174, 3, 0, 0, 0, 122, [(0, 9)]), none, none, eS (.invokestatic 67) 159 3 194, none, none, eA (.ifCond .eq 7) 3 31, none, none, eV (.iconst 1) 1 1, 
  eA (.goto 4) 3 32, none, none, e1 (.iconst 0), e1 .ireturn]
set_option maxRecDepth 100000 in
def cd210 : Cd := [e1 (.iload_n 1), e1 (.aload_n 0), eG (.getfield 169) 11 16 16 99, none, none, eA (.if_icmp .ge 26) 3 31, none, none, e1 (.aload_n 0), eG (.getfield 48) 11 15 15 98, none, none, e1 (.iload_n 1), e1 .iaload, e1 .i2l, 
  some (.ldc2_w 176, 3, 0, 0, 0, 48, [(0, 10)]), none, none, some (.ldc2_w 178, 3, 0, 0, 0, 57, [(0, 11)]), none, none, eS (.invokestatic 67) 159 3 194, none, none, eA (.ifCond .eq 7) 3 31, none, none, eV (.iconst 1) 1 1, 
  eA (.goto 4) 3 32, none, none, e1 (.iconst 0), e1 .ireturn]
set_option maxRecDepth 100000 in
def cd211 : Cd := [e1 (.aload_n 0), eG (.getfield 180) 11 18 18 101, none, none, eA (.ifCond .le 23) 3 27, none, none, e1 (.aload_n 0), eG (.getfield 183) 11 19 19 102, none, none, eV (.iconst 1) 1 1, eA (.if_icmp .eq 11) 3 23, none, none, 
  e1 (.aload_n 0), eG (.getfield 183) 11 19 19 102, none, none, eV (.iconst 2) 1 2, eA (.if_icmp .ne 7) 3 27, none, none, eV (.iconst 1) 1 1, eA (.goto 4) 3 28, none, none, e1 (.iconst 0), e1 (.istore_n 1), e1 (.aload_n 0), 
  eG (.getfield 180) 11 18 18 101, none, none, e1 (.istore_n 2), e1 (.aload_n 0), eG (.getfield 180) 11 18 18 101, none, none, e1 (.aload_n 0), eG (.getfield 169) 11 16 16 99, none, none, eA (.if_icmp .ge 30) 3 72, none, 
  none, e1 (.aload_n 0), eG (.getfield 48) 11 15 15 98, none, none, e1 (.aload_n 0), eG (.getfield 180) 11 18 18 101, none, none, e1 .iaload, eV (.bipush 32) 2 32, none, eA (.if_icmp .ne 16) 3 72, none, none, 
  e1 (.aload_n 0), e1 .dup, eG (.getfield 180) 11 18 18 101, none, none, eV (.iconst 1) 1 1, e1 .iadd, eG (.putfield 180) 11 18 18 101, none, none, eA (.goto (-35)) 3 34, none, none, e1 (.iload_n 1), 
  eA (.ifCond .eq 15) 3 88, none, none, e1 (.iload_n 2), e1 (.aload_n 0), eG (.getfield 180) 11 18 18 101, none, none, eA (.if_icmp .ne 7) 3 88, none, none, eV (.iconst 1) 1 1, eA (.goto 4) 3 89, none, none, e1 (.iconst 0), 
  e1 (.istore_n 1), e1 (.aload_n 0), e1 (.aload_n 0), eG (.getfield 180) 11 18 18 101, none, none, eG (.putfield 186) 11 17 17 100, none, none, e1 (.aload_n 0), eG (.getfield 186) 11 17 17 100, none, none, e1 (.aload_n 0), 
  eG (.getfield 169) 11 16 16 99, none, none, eA (.if_icmp .ne 11) 3 117, none, none, e1 (.aload_n 0), e1 (.iconst 0), eG (.putfield 183) 11 19 19 102, none, none, eA (.goto 225) 3 339, none, none, e1 (.aload_n 0), 
  e1 (.aload_n 0), eG (.getfield 186) 11 17 17 100, none, none, eS (.invokevirtual 189) 209 1 242, none, none, eA (.ifCond .eq 73) 3 198, none, none, e1 (.aload_n 0), e1 (.aload_n 0), eG (.getfield 180) 11 18 18 101, none, 
  none, eS (.invokevirtual 189) 209 1 242, none, none, eA (.ifCond .eq 16) 3 152, none, none, e1 (.aload_n 0), e1 .dup, eG (.getfield 180) 11 18 18 101, none, none, eV (.iconst 1) 1 1, e1 .iadd, 
  eG (.putfield 180) 11 18 18 101, none, none, eA (.goto (-21)) 3 128, none, none, e1 (.aload_n 0), e1 (.iload_n 1), eA (.ifCond .eq 7) 3 161, none, none, eV (.iconst 4) 1 4, eA (.goto 4) 3 162, none, none, 
  eV (.iconst 1) 1 1, eG (.putfield 183) 11 19 19 102, none, none, e1 (.aload_n 0), e1 (.aload_n 0), eG (.getfield 180) 11 18 18 101, none, none, e1 (.aload_n 0), eG (.getfield 186) 11 17 17 100, none, none, e1 .isub, 
  eV (.iconst 1) 1 1, eA (.if_icmp .ne 15) 3 191, none, none, e1 (.aload_n 0), eG (.getfield 48) 11 15 15 98, none, none, e1 (.aload_n 0), eG (.getfield 186) 11 17 17 100, none, none, e1 .iaload, eA (.goto 4) 3 192, none, 
  none, e1 (.iconst 0), eG (.putfield 192) 11 21 21 104, none, none, eA (.goto 144) 3 339, none, none, e1 (.aload_n 0), e1 (.aload_n 0), eG (.getfield 186) 11 17 17 100, none, none, eS (.invokevirtual 195) 210 1 243, none, 
  none, eA (.ifCond .eq 105) 3 311, none, none, e1 (.aload_n 0), e1 (.iconst 0), eG (.putfield 198) 11 20 20 103, none, none, e1 (.aload_n 0), e1 (.aload_n 0), eG (.getfield 180) 11 18 18 101, none, none, 
  eS (.invokevirtual 195) 210 1 243, none, none, eA (.ifCond .eq 60) 3 282, none, none, e1 (.aload_n 0), e1 (.aload_n 0), eG (.getfield 180) 11 18 18 101, none, none, e1 (.aload_n 0), eG (.getfield 186) 11 17 17 100, none, 
  none, e1 .isub, eV (.iconst 4) 1 4, eA (.if_icmp .ge 26) 3 262, none, none, eV (.bipush 10) 2 10, none, e1 (.aload_n 0), eG (.getfield 198) 11 20 20 103, none, none, e1 .imul, e1 (.aload_n 0), 
  eG (.getfield 48) 11 15 15 98, none, none, e1 (.aload_n 0), eG (.getfield 180) 11 18 18 101, none, none, e1 .iaload, e1 .iadd, eV (.bipush 48) 2 48, none, e1 .isub, eA (.goto 7) 3 266, none, none, e1 (.aload_n 0), 
  eG (.getfield 198) 11 20 20 103, none, none, eG (.putfield 198) 11 20 20 103, none, none, e1 (.aload_n 0), e1 .dup, eG (.getfield 180) 11 18 18 101, none, none, eV (.iconst 1) 1 1, e1 .iadd, 
  eG (.putfield 180) 11 18 18 101, none, none, eA (.goto (-65)) 3 214, none, none, e1 (.aload_n 0), e1 (.iload_n 1), eA (.ifCond .ne 16) 3 300, none, none, e1 (.aload_n 0), eG (.getfield 180) 11 18 18 101, none, none, 
  e1 (.aload_n 0), eG (.getfield 186) 11 17 17 100, none, none, e1 .isub, eV (.iconst 4) 1 4, eA (.if_icmp .le 7) 3 304, none, none, eV (.iconst 4) 1 4, eA (.goto 4) 3 305, none, none, eV (.iconst 2) 1 2, 
  eG (.putfield 183) 11 19 19 102, none, none, eA (.goto 31) 3 339, none, none, e1 (.aload_n 0), eV (.iconst 3) 1 3, eG (.putfield 183) 11 19 19 102, none, none, e1 (.aload_n 0), e1 (.aload_n 0), 
  eG (.getfield 48) 11 15 15 98, none, none, e1 (.aload_n 0), eG (.getfield 186) 11 17 17 100, none, none, e1 .iaload, eG (.putfield 192) 11 21 21 104, none, none, e1 (.aload_n 0), e1 .dup, eG (.getfield 180) 11 18 18 101, 
  none, none, eV (.iconst 1) 1 1, e1 .iadd, eG (.putfield 180) 11 18 18 101, none, none, e1 .return_]
set_option maxRecDepth 100000 in
def cd212 : Cd := [e1 (.aload_n 0), eG (.getfield 183) 11 19 19 102, none, none, eV (.iconst 3) 1 3, eA (.if_icmp .ne 15) 3 20, none, none, e1 (.aload_n 0), eG (.getfield 192) 11 21 21 104, none, none, e1 (.iload_n 1), 
  eA (.if_icmp .ne 7) 3 20, none, none, eV (.iconst 1) 1 1, eA (.goto 4) 3 21, none, none, e1 (.iconst 0), e1 .ireturn]
set_option maxRecDepth 100000 in
def cd213 : Cd := [e2 (.iload 4), none, eA (.ifCond .ne 7) 3 9, none, none, eV (.iconst 3) 1 3, eA (.goto 4) 3 10, none, none, eV (.iconst 4) 1 4, e2 (.istore 5), none, e1 (.aload_n 0), eG (.getfield 183) 11 19 19 102, none, none, 
  eV (.iconst 1) 1 1, eA (.if_icmp .ne 85) 3 102, none, none, e1 (.aload_n 0), eG (.getfield 180) 11 18 18 101, none, none, e1 (.aload_n 0), eG (.getfield 186) 11 17 17 100, none, none, e1 .isub, e2 (.iload 5), none, 
  eA (.if_icmp .ne 71) 3 102, none, none, e1 (.aload_n 0), eG (.getfield 48) 11 15 15 98, none, none, e1 (.aload_n 0), eG (.getfield 186) 11 17 17 100, none, none, e1 .iaload, e1 (.iload_n 1), eA (.if_icmp .ne 58) 3 102, 
  none, none, e1 (.aload_n 0), eG (.getfield 48) 11 15 15 98, none, none, e1 (.aload_n 0), eG (.getfield 186) 11 17 17 100, none, none, eV (.iconst 1) 1 1, e1 .iadd, e1 .iaload, e1 (.iload_n 2), eA (.if_icmp .ne 43) 3 102, 
  none, none, e1 (.aload_n 0), eG (.getfield 48) 11 15 15 98, none, none, e1 (.aload_n 0), eG (.getfield 186) 11 17 17 100, none, none, eV (.iconst 2) 1 2, e1 .iadd, e1 .iaload, e1 (.iload_n 3), eA (.if_icmp .ne 28) 3 102, 
  none, none, e2 (.iload 4), none, eA (.ifCond .eq 19) 3 98, none, none, e1 (.aload_n 0), eG (.getfield 48) 11 15 15 98, none, none, e1 (.aload_n 0), eG (.getfield 186) 11 17 17 100, none, none, eV (.iconst 3) 1 3, 
  e1 .iadd, e1 .iaload, e2 (.iload 4), none, eA (.if_icmp .ne 7) 3 102, none, none, eV (.iconst 1) 1 1, eA (.goto 4) 3 103, none, none, e1 (.iconst 0), e1 .ireturn]
set_option maxRecDepth 100000 in
def cd214 : Cd := [e2 (.iload 6), none, eA (.ifCond .ne 7) 3 9, none, none, eV (.iconst 5) 1 5, eA (.goto 5) 3 11, none, none, eV (.bipush 6) 2 6, none, e2 (.istore 7), none, e1 (.aload_n 0), eG (.getfield 183) 11 19 19 102, none, none, 
  eV (.iconst 1) 1 1, eA (.if_icmp .ne 117) 3 135, none, none, e1 (.aload_n 0), eG (.getfield 180) 11 18 18 101, none, none, e1 (.aload_n 0), eG (.getfield 186) 11 17 17 100, none, none, e1 .isub, e2 (.iload 7), none, 
  eA (.if_icmp .ne 103) 3 135, none, none, e1 (.aload_n 0), eG (.getfield 48) 11 15 15 98, none, none, e1 (.aload_n 0), eG (.getfield 186) 11 17 17 100, none, none, e1 .iaload, e1 (.iload_n 1), eA (.if_icmp .ne 90) 3 135, 
  none, none, e1 (.aload_n 0), eG (.getfield 48) 11 15 15 98, none, none, e1 (.aload_n 0), eG (.getfield 186) 11 17 17 100, none, none, eV (.iconst 1) 1 1, e1 .iadd, e1 .iaload, e1 (.iload_n 2), eA (.if_icmp .ne 75) 3 135, 
  none, none, e1 (.aload_n 0), eG (.getfield 48) 11 15 15 98, none, none, e1 (.aload_n 0), eG (.getfield 186) 11 17 17 100, none, none, eV (.iconst 2) 1 2, e1 .iadd, e1 .iaload, e1 (.iload_n 3), eA (.if_icmp .ne 60) 3 135, 
  none, none, e1 (.aload_n 0), eG (.getfield 48) 11 15 15 98, none, none, e1 (.aload_n 0), eG (.getfield 186) 11 17 17 100, none, none, eV (.iconst 3) 1 3, e1 .iadd, e1 .iaload, e2 (.iload 4), none, 
  eA (.if_icmp .ne 44) 3 135, none, none, e1 (.aload_n 0), eG (.getfield 48) 11 15 15 98, none, none, e1 (.aload_n 0), eG (.getfield 186) 11 17 17 100, none, none, eV (.iconst 4) 1 4, e1 .iadd, e1 .iaload, e2 (.iload 5), 
  none, eA (.if_icmp .ne 28) 3 135, none, none, e2 (.iload 6), none, eA (.ifCond .eq 19) 3 131, none, none, e1 (.aload_n 0), eG (.getfield 48) 11 15 15 98, none, none, e1 (.aload_n 0), eG (.getfield 186) 11 17 17 100, none, 
  none, eV (.iconst 5) 1 5, e1 .iadd, e1 .iaload, e2 (.iload 6), none, eA (.if_icmp .ne 7) 3 135, none, none, eV (.iconst 1) 1 1, eA (.goto 4) 3 136, none, none, e1 (.iconst 0), e1 .ireturn]
set_option maxRecDepth 100000 in
def cd215 : Cd := [e1 (.aload_n 0), eV (.bipush 112) 2 112, none, eV (.bipush 97) 2 97, none, eV (.bipush 121) 2 121, none, e1 (.iconst 0), eS (.invokevirtual 201) 213 4 245, none, none, eA (.ifCond .eq 7) 3 18, none, none, e1 (.iconst 0), 
  eA (.goto 61) 3 76, none, none, e1 (.aload_n 0), eV (.bipush 108) 2 108, none, eV (.bipush 111) 2 111, none, eV (.bipush 115) 2 115, none, eV (.bipush 116) 2 116, none, eS (.invokevirtual 201) 213 4 245, none, none, 
  eA (.ifCond .eq 7) 3 37, none, none, eV (.iconst 1) 1 1, eA (.goto 42) 3 76, none, none, e1 (.aload_n 0), eV (.bipush 115) 2 115, none, eV (.bipush 97) 2 97, none, eV (.bipush 118) 2 118, none, eV (.bipush 101) 2 101, 
  none, eS (.invokevirtual 201) 213 4 245, none, none, eA (.ifCond .eq 7) 3 56, none, none, eV (.iconst 3) 1 3, eA (.goto 23) 3 76, none, none, e1 (.aload_n 0), eV (.bipush 100) 2 100, none, eV (.bipush 97) 2 97, none, 
  eV (.bipush 121) 2 121, none, eV (.bipush 115) 2 115, none, eS (.invokevirtual 201) 213 4 245, none, none, eA (.ifCond .eq 7) 3 75, none, none, eV (.iconst 5) 1 5, eA (.goto 4) 3 76, none, none, eV (.iconst (-1)) 1 (-1), 
  e1 (.istore_n 1), e1 (.aload_n 0), eV (.bipush 118) 2 118, none, eV (.bipush 105) 2 105, none, eV (.bipush 99) 2 99, none, eV (.bipush 116) 2 116, none, eV (.bipush 105) 2 105, none, eV (.bipush 109) 2 109, none, 
  eS (.invokevirtual 205) 214 6 246, none, none, eA (.ifCond .eq 7) 3 100, none, none, eV (.iconst 2) 1 2, eA (.goto 26) 3 123, none, none, e1 (.aload_n 0), eV (.bipush 108) 2 108, none, eV (.bipush 101) 2 101, none, 
  eV (.bipush 97) 2 97, none, eV (.bipush 115) 2 115, none, eV (.bipush 116) 2 116, none, e1 (.iconst 0), eS (.invokevirtual 205) 214 6 246, none, none, eA (.ifCond .eq 7) 3 122, none, none, eV (.iconst 4) 1 4, 
  eA (.goto 4) 3 123, none, none, e1 (.iload_n 1), e1 .ireturn]
set_option maxRecDepth 100000 in
def cd216 : Cd := [e1 (.iload_n 0), some (.tableswitch 119 0 4 #[35, 59, 71, 89, 107], 35, 120, 0, 0, 0, [(0, 36), (1, 60), (2, 72), (3, 90), (4, 108)]), none, none, none, none, none, none, none, none, none, none, none, none, none, none, 
  none, none, none, none, none, none, none, none, none, none, none, none, none, none, none, none, none, none, none, none, e1 (.iload_n 1), eV (.bipush 110) 2 110, none, eA (.if_icmp .eq 15) 3 54, none, none, 
  e1 (.iload_n 1), eV (.bipush 107) 2 107, none, eA (.if_icmp .eq 9) 3 54, none, none, e1 (.iload_n 1), eV (.bipush 114) 2 114, none, eA (.if_icmp .ne 7) 3 58, none, none, eV (.iconst 1) 1 1, eA (.goto 4) 3 59, none, none, 
  e1 (.iconst 0), e1 .ireturn, e1 (.iload_n 1), eV (.bipush 107) 2 107, none, eA (.if_icmp .ne 7) 3 70, none, none, eV (.iconst 1) 1 1, eA (.goto 4) 3 71, none, none, e1 (.iconst 0), e1 .ireturn, e1 (.iload_n 1), 
  eV (.bipush 103) 2 103, none, eA (.if_icmp .eq 9) 3 84, none, none, e1 (.iload_n 1), eV (.bipush 111) 2 111, none, eA (.if_icmp .ne 7) 3 88, none, none, eV (.iconst 1) 1 1, eA (.goto 4) 3 89, none, none, e1 (.iconst 0), 
  e1 .ireturn, e1 (.iload_n 1), eV (.bipush 103) 2 103, none, eA (.if_icmp .eq 9) 3 102, none, none, e1 (.iload_n 1), eV (.bipush 116) 2 116, none, eA (.if_icmp .ne 7) 3 106, none, none, eV (.iconst 1) 1 1, 
  eA (.goto 4) 3 107, none, none, e1 (.iconst 0), e1 .ireturn, e1 (.iload_n 1), eV (.bipush 103) 2 103, none, eA (.if_icmp .ne 7) 3 118, none, none, eV (.iconst 1) 1 1, eA (.goto 4) 3 119, none, none, e1 (.iconst 0), 
  e1 .ireturn, e1 (.iload_n 1), eV (.bipush 119) 2 119, none, eA (.if_icmp .eq 9) 3 132, none, none, e1 (.iload_n 1), eV (.bipush 107) 2 107, none, eA (.if_icmp .ne 7) 3 136, none, none, eV (.iconst 1) 1 1, 
  eA (.goto 4) 3 137, none, none, e1 (.iconst 0), e1 .ireturn]
set_option maxRecDepth 100000 in
def cd217 : Cd := [e1 (.aload_n 0), eS (.getfield 7) 11 0 83, none, none, e1 (.aload_n 0), eG (.getfield 209) 11 25 25 108, none, none, eV (.iconst 2) 1 2, e1 (.aload_n 0), eG (.getfield 212) 11 24 24 107, none, none, e1 .imul, e1 .iadd, 
  e1 (.iload_n 1), e1 .iastore, e1 (.aload_n 0), eS (.getfield 7) 11 0 83, none, none, e1 (.aload_n 0), eG (.getfield 209) 11 25 25 108, none, none, eV (.iconst 2) 1 2, e1 (.aload_n 0), eG (.getfield 212) 11 24 24 107, 
  none, none, e1 .imul, e1 .iadd, eV (.iconst 1) 1 1, e1 .iadd, e1 (.iload_n 2), e1 .iastore, e1 (.aload_n 0), e1 .dup, eG (.getfield 212) 11 24 24 107, none, none, eV (.iconst 1) 1 1, e1 .iadd, 
  eG (.putfield 212) 11 24 24 107, none, none, e1 .return_]
set_option maxRecDepth 100000 in
def cd218 : Cd := [e1 (.aload_n 0), e1 (.iload_n 1), eS (.invokevirtual 215) 219 1 248, none, none, eA (.ifCond .ne 5) 3 10, none, none, e1 (.iconst 0), e1 .ireturn, e1 (.aload_n 0), eV (.bipush 124) 2 124, none, 
  eS (.invokevirtual 218) 212 1 255, none, none, eA (.ifCond .eq 27) 3 43, none, none, e1 (.aload_n 0), eS (.invokevirtual 221) 211 0 241, none, none, e1 (.aload_n 0), e1 (.iload_n 1), eS (.invokevirtual 215) 219 1 248, 
  none, none, eA (.ifCond .ne 5) 3 33, none, none, e1 (.iconst 0), e1 .ireturn, e1 (.aload_n 0), eV (.iconst 2) 1 2, eV (.bipush 124) 2 124, none, eS (.invokevirtual 224) 217 2 253, none, none, eA (.goto (-30)) 3 10, none, 
  none, eV (.iconst 1) 1 1, e1 .ireturn]
set_option maxRecDepth 100000 in
def cd219 : Cd := [e1 (.aload_n 0), e1 (.iload_n 1), eS (.invokevirtual 227) 220 1 249, none, none, eA (.ifCond .ne 5) 3 10, none, none, e1 (.iconst 0), e1 .ireturn, e1 (.aload_n 0), eV (.bipush 38) 2 38, none, 
  eS (.invokevirtual 218) 212 1 255, none, none, eA (.ifCond .eq 27) 3 43, none, none, e1 (.aload_n 0), eS (.invokevirtual 221) 211 0 241, none, none, e1 (.aload_n 0), e1 (.iload_n 1), eS (.invokevirtual 227) 220 1 249, 
  none, none, eA (.ifCond .ne 5) 3 33, none, none, e1 (.iconst 0), e1 .ireturn, e1 (.aload_n 0), eV (.iconst 2) 1 2, eV (.bipush 38) 2 38, none, eS (.invokevirtual 224) 217 2 253, none, none, eA (.goto (-30)) 3 10, none, 
  none, eV (.iconst 1) 1 1, e1 .ireturn]
set_option maxRecDepth 100000 in
def cd220 : Cd := [e1 (.aload_n 0), e1 (.iload_n 1), eS (.invokevirtual 230) 221 1 250, none, none, eA (.ifCond .ne 5) 3 10, none, none, e1 (.iconst 0), e1 .ireturn, e1 (.aload_n 0), eV (.bipush 60) 2 60, none, 
  eS (.invokevirtual 218) 212 1 255, none, none, eA (.ifCond .ne 21) 3 37, none, none, e1 (.aload_n 0), eV (.bipush 61) 2 61, none, eS (.invokevirtual 218) 212 1 255, none, none, eA (.ifCond .ne 12) 3 37, none, none, 
  e1 (.aload_n 0), eV (.bipush 62) 2 62, none, eS (.invokevirtual 218) 212 1 255, none, none, eA (.ifCond .eq 28) 3 62, none, none, e1 (.aload_n 0), eG (.getfield 192) 11 21 21 104, none, none, e1 (.istore_n 2), 
  e1 (.aload_n 0), eS (.invokevirtual 221) 211 0 241, none, none, e1 (.aload_n 0), e1 (.iload_n 1), eS (.invokevirtual 230) 221 1 250, none, none, eA (.ifCond .ne 5) 3 56, none, none, e1 (.iconst 0), e1 .ireturn, 
  e1 (.aload_n 0), eV (.iconst 2) 1 2, e1 (.iload_n 2), eS (.invokevirtual 224) 217 2 253, none, none, eV (.iconst 1) 1 1, e1 .ireturn]
set_option maxRecDepth 100000 in
def cd221 : Cd := [e1 (.aload_n 0), e1 (.iload_n 1), eS (.invokevirtual 233) 222 1 251, none, none, eA (.ifCond .ne 5) 3 10, none, none, e1 (.iconst 0), e1 .ireturn, e1 (.aload_n 0), eV (.bipush 43) 2 43, none, 
  eS (.invokevirtual 218) 212 1 255, none, none, eA (.ifCond .ne 12) 3 28, none, none, e1 (.aload_n 0), eV (.bipush 45) 2 45, none, eS (.invokevirtual 218) 212 1 255, none, none, eA (.ifCond .eq 31) 3 56, none, none, 
  e1 (.aload_n 0), eG (.getfield 192) 11 21 21 104, none, none, e1 (.istore_n 2), e1 (.aload_n 0), eS (.invokevirtual 221) 211 0 241, none, none, e1 (.aload_n 0), e1 (.iload_n 1), eS (.invokevirtual 233) 222 1 251, none, 
  none, eA (.ifCond .ne 5) 3 47, none, none, e1 (.iconst 0), e1 .ireturn, e1 (.aload_n 0), eV (.iconst 2) 1 2, e1 (.iload_n 2), eS (.invokevirtual 224) 217 2 253, none, none, eA (.goto (-43)) 3 10, none, none, 
  eV (.iconst 1) 1 1, e1 .ireturn]
set_option maxRecDepth 100000 in
def cd222 : Cd := [e1 (.aload_n 0), e1 (.iload_n 1), eS (.invokevirtual 236) 223 1 252, none, none, eA (.ifCond .ne 5) 3 10, none, none, e1 (.iconst 0), e1 .ireturn, e1 (.aload_n 0), eV (.bipush 42) 2 42, none, 
  eS (.invokevirtual 218) 212 1 255, none, none, eA (.ifCond .ne 12) 3 28, none, none, e1 (.aload_n 0), eV (.bipush 47) 2 47, none, eS (.invokevirtual 218) 212 1 255, none, none, eA (.ifCond .eq 31) 3 56, none, none, 
  e1 (.aload_n 0), eG (.getfield 192) 11 21 21 104, none, none, e1 (.istore_n 2), e1 (.aload_n 0), eS (.invokevirtual 221) 211 0 241, none, none, e1 (.aload_n 0), e1 (.iload_n 1), eS (.invokevirtual 236) 223 1 252, none, 
  none, eA (.ifCond .ne 5) 3 47, none, none, e1 (.iconst 0), e1 .ireturn, e1 (.aload_n 0), eV (.iconst 2) 1 2, e1 (.iload_n 2), eS (.invokevirtual 224) 217 2 253, none, none, eA (.goto (-43)) 3 10, none, none, 
  eV (.iconst 1) 1 1, e1 .ireturn]
set_option maxRecDepth 100000 in
def cd223 : Cd := [e1 (.aload_n 0), eG (.getfield 183) 11 19 19 102, none, none, eV (.iconst 2) 1 2, eA (.if_icmp .ne 28) 3 33, none, none, e1 (.aload_n 0), e1 (.iconst 0), e1 (.aload_n 0), eG (.getfield 198) 11 20 20 103, none, none, 
  eS (.invokevirtual 224) 217 2 253, none, none, e1 (.aload_n 0), e1 .dup, eG (.getfield 239) 11 26 26 109, none, none, eV (.iconst 1) 1 1, e1 .iadd, eG (.putfield 239) 11 26 26 109, none, none, e1 (.aload_n 0), 
  eS (.invokevirtual 221) 211 0 241, none, none, eV (.iconst 1) 1 1, e1 .ireturn, e1 (.aload_n 0), eG (.getfield 183) 11 19 19 102, none, none, eV (.iconst 1) 1 1, eA (.if_icmp .ne 46) 3 84, none, none, e1 (.aload_n 0), 
  eG (.getfield 192) 11 21 21 104, none, none, eA (.ifCond .eq 39) 3 84, none, none, e1 (.iload_n 1), e1 (.aload_n 0), eG (.getfield 192) 11 21 21 104, none, none, eS (.invokestatic 242) 216 2 254, none, none, 
  eA (.ifCond .eq 28) 3 84, none, none, e1 (.aload_n 0), eV (.iconst 1) 1 1, e1 (.aload_n 0), eG (.getfield 192) 11 21 21 104, none, none, eS (.invokevirtual 224) 217 2 253, none, none, e1 (.aload_n 0), e1 .dup, 
  eG (.getfield 239) 11 26 26 109, none, none, eV (.iconst 1) 1 1, e1 .iadd, eG (.putfield 239) 11 26 26 109, none, none, e1 (.aload_n 0), eS (.invokevirtual 221) 211 0 241, none, none, eV (.iconst 1) 1 1, e1 .ireturn, 
  e1 (.aload_n 0), eV (.bipush 33) 2 33, none, eS (.invokevirtual 218) 212 1 255, none, none, eA (.ifCond .eq 55) 3 145, none, none, e1 (.aload_n 0), eG (.getfield 245) 11 23 23 106, none, none, eV (.bipush 8) 2 8, none, 
  eA (.if_icmp .ge 46) 3 145, none, none, e1 (.aload_n 0), e1 .dup, eG (.getfield 245) 11 23 23 106, none, none, eV (.iconst 1) 1 1, e1 .iadd, eG (.putfield 245) 11 23 23 106, none, none, e1 (.aload_n 0), 
  eS (.invokevirtual 221) 211 0 241, none, none, e1 (.aload_n 0), e1 (.iload_n 1), eS (.invokevirtual 236) 223 1 252, none, none, eA (.ifCond .ne 5) 3 126, none, none, e1 (.iconst 0), e1 .ireturn, e1 (.aload_n 0), e1 .dup, 
  eG (.getfield 245) 11 23 23 106, none, none, eV (.iconst 1) 1 1, e1 .isub, eG (.putfield 245) 11 23 23 106, none, none, e1 (.aload_n 0), eV (.iconst 2) 1 2, eV (.bipush 33) 2 33, none, eS (.invokevirtual 224) 217 2 253, 
  none, none, eV (.iconst 1) 1 1, e1 .ireturn, e1 (.aload_n 0), eV (.bipush 40) 2 40, none, eS (.invokevirtual 218) 212 1 255, none, none, eA (.ifCond .eq 12) 3 163, none, none, e1 (.aload_n 0), 
  eG (.getfield 248) 11 22 22 105, none, none, eV (.bipush 8) 2 8, none, eA (.if_icmp .ne 5) 3 165, none, none, e1 (.iconst 0), e1 .ireturn, e1 (.aload_n 0), e1 .dup, eG (.getfield 248) 11 22 22 105, none, none, 
  eV (.iconst 1) 1 1, e1 .iadd, eG (.putfield 248) 11 22 22 105, none, none, e1 (.aload_n 0), eS (.invokevirtual 221) 211 0 241, none, none, e1 (.aload_n 0), e1 (.iload_n 1), eS (.invokevirtual 251) 218 1 247, none, none, 
  eA (.ifCond .eq 12) 3 196, none, none, e1 (.aload_n 0), eV (.bipush 41) 2 41, none, eS (.invokevirtual 218) 212 1 255, none, none, eA (.ifCond .ne 5) 3 198, none, none, e1 (.iconst 0), e1 .ireturn, e1 (.aload_n 0), 
  e1 .dup, eG (.getfield 248) 11 22 22 105, none, none, eV (.iconst 1) 1 1, e1 .isub, eG (.putfield 248) 11 22 22 105, none, none, e1 (.aload_n 0), eS (.invokevirtual 221) 211 0 241, none, none, eV (.iconst 1) 1 1, 
  e1 .ireturn]
set_option maxRecDepth 100000 in
def cd224 : Cd := [e1 (.aload_n 0), e1 (.iconst 0), eG (.putfield 180) 11 18 18 101, none, none, e1 (.aload_n 0), eV (.iconst 3) 1 3, eG (.putfield 183) 11 19 19 102, none, none, e1 (.aload_n 0), e1 (.iconst 0), 
  eG (.putfield 248) 11 22 22 105, none, none, e1 (.aload_n 0), e1 (.iconst 0), eG (.putfield 245) 11 23 23 106, none, none, e1 (.aload_n 0), e1 (.iconst 0), eG (.putfield 212) 11 24 24 107, none, none, e1 (.aload_n 0), 
  e1 (.iconst 0), eG (.putfield 239) 11 26 26 109, none, none, e1 (.aload_n 0), e1 (.aload_n 0), eS (.getfield 7) 11 0 83, none, none, eV (.iconst 4) 1 4, e1 .iaload, eV (.bipush 12) 2 12, none, eA (.if_icmp .ge 18) 3 57, 
  none, none, e1 (.aload_n 0), e1 (.aload_n 0), eS (.getfield 7) 11 0 83, none, none, eV (.iconst 4) 1 4, e1 .iaload, eS (.invokevirtual 254) 166 1 240, none, none, eV (.iconst 4) 1 4, e1 .iadd, eA (.goto 6) 3 60, none, 
  none, eV (.sipush 3200) 3 3200, none, none, eG (.putfield 209) 11 25 25 108, none, none, e1 (.aload_n 0), eS (.invokevirtual 221) 211 0 241, none, none, e1 (.aload_n 0), eS (.invokevirtual 257) 215 0 244, none, none, 
  e1 (.istore_n 1), e1 (.iload_n 1), eA (.ifCond .lt 7) 3 80, none, none, eV (.iconst 1) 1 1, eA (.goto 4) 3 81, none, none, e1 (.iconst 0), e1 (.istore_n 2), e1 (.iload_n 2), eA (.ifCond .eq 28) 3 111, none, none, 
  e1 (.aload_n 0), eS (.invokevirtual 221) 211 0 241, none, none, e1 (.aload_n 0), e1 (.iload_n 1), eS (.invokevirtual 251) 218 1 247, none, none, eA (.ifCond .eq 14) 3 109, none, none, e1 (.aload_n 0), 
  eG (.getfield 183) 11 19 19 102, none, none, eA (.ifCond .ne 7) 3 109, none, none, eV (.iconst 1) 1 1, eA (.goto 4) 3 110, none, none, e1 (.iconst 0), e1 (.istore_n 2), e1 (.aload_n 0), e1 (.iconst 0), 
  eG (.putfield 169) 11 16 16 99, none, none, e1 (.iload_n 2), eA (.ifCond .eq 7) 3 124, none, none, e1 (.iload_n 1), eA (.goto 4) 3 125, none, none, eV (.iconst (-1)) 1 (-1), e1 .ireturn]
set_option maxRecDepth 100000 in
def cd225 : Cd := [e1 (.iload_n 1), e1 .i2l, e1 (.lconst 0), some (.ldc2_w 112, 3, 0, 0, 0, 999, [(0, 4)]), none, none, eS (.invokestatic 67) 159 3 194, none, none, e1 (.istore_n 2), e1 (.aload_n 0), eS (.invokevirtual 261) 224 0 239, none, 
  none, e1 (.istore_n 3), e1 (.iload_n 2), eA (.ifCond .ne 6) 3 22, none, none, some (.ldc 87, 2, 0, 0, -1000000001, 0, [(0, 24)]), none, e1 .ireturn, e1 (.iload_n 3), eA (.ifCond .ge 11) 3 34, none, none, 
  eV (.bipush (-100)) 2 (-100), none, e1 (.aload_n 0), eG (.getfield 186) 11 17 17 100, none, none, e1 .isub, e1 .ireturn, e1 (.aload_n 0), eS (.getfield 7) 11 0 83, none, none, eV (.iconst 4) 1 4, e1 .iaload, 
  eV (.bipush 12) 2 12, none, eA (.if_icmp .ne 6) 3 48, none, none, some (.ldc 88, 2, 0, 0, -1000000003, 0, [(0, 25)]), none, e1 .ireturn, e1 (.aload_n 0), e1 (.aload_n 0), eS (.getfield 7) 11 0 83, none, none, 
  eV (.iconst 4) 1 4, e1 .iaload, eS (.invokevirtual 254) 166 1 240, none, none, e2 (.istore 4), none, e1 (.aload_n 0), eS (.getfield 7) 11 0 83, none, none, e2 (.iload 4), none, e1 (.iconst 0), e1 .iadd, e1 (.iload_n 3), 
  e1 .iastore, e1 (.aload_n 0), eS (.getfield 7) 11 0 83, none, none, e2 (.iload 4), none, eV (.iconst 1) 1 1, e1 .iadd, e1 (.iload_n 1), e1 .iastore, e1 (.aload_n 0), eS (.getfield 7) 11 0 83, none, none, e2 (.iload 4), 
  none, eV (.iconst 2) 1 2, e1 .iadd, e1 (.aload_n 0), eG (.getfield 239) 11 26 26 109, none, none, e1 .iastore, e1 (.aload_n 0), eS (.getfield 7) 11 0 83, none, none, e2 (.iload 4), none, eV (.iconst 3) 1 3, e1 .iadd, 
  e1 (.aload_n 0), eG (.getfield 212) 11 24 24 107, none, none, e1 .iastore, e1 (.aload_n 0), eS (.getfield 7) 11 0 83, none, none, eV (.iconst 4) 1 4, e1 .dup2, e1 .iaload, eV (.iconst 1) 1 1, e1 .iadd, e1 .iastore, 
  e1 (.aload_n 0), eS (.getfield 7) 11 0 83, none, none, eV (.iconst 4) 1 4, e1 .iaload, eV (.iconst 1) 1 1, e1 .isub, e1 .ireturn]
set_option maxRecDepth 100000 in
def cd226 : Cd := [e1 (.aload_n 0), e1 (.iload_n 1), eS (.invokevirtual 264) 171 1 257, none, none, eA (.ifCond .eq 30) 3 35, none, none, e1 (.iload_n 2), e1 .i2l, e1 (.lconst 0), some (.ldc2_w 267, 3, 0, 0, 0, 2, [(0, 12)]), none, none, 
  eS (.invokestatic 67) 159 3 194, none, none, eA (.ifCond .eq 18) 3 35, none, none, e1 (.aload_n 0), eS (.getfield 7) 11 0 83, none, none, e1 (.aload_n 0), e1 (.iload_n 1), eS (.invokevirtual 254) 166 1 240, none, none, 
  e1 (.iload_n 2), e1 .iadd, e1 .iaload, eA (.goto 5) 3 37, none, none, some (.ldc 87, 2, 0, 0, -1000000001, 0, [(0, 24)]), none, e1 .ireturn]
set_option maxRecDepth 100000 in
def cd227 : Cd := [eV (.iconst (-1)) 1 (-1), e1 (.istore_n 2), e1 (.iconst 0), e1 (.istore_n 3), e1 (.iload_n 3), e1 (.aload_n 0), eS (.getfield 7) 11 0 83, none, none, eV (.iconst 4) 1 4, e1 .iaload, eA (.if_icmp .ge 95) 3 106, none, none, 
  e1 (.aload_n 0), eS (.getfield 7) 11 0 83, none, none, e1 (.aload_n 0), e1 (.iload_n 3), eS (.invokevirtual 254) 166 1 240, none, none, e1 (.iconst 0), e1 .iadd, e1 .iaload, e1 (.iload_n 1), eA (.if_icmp .ne 28) 3 55, 
  none, none, e1 (.aload_n 0), eS (.getfield 7) 11 0 83, none, none, e1 (.aload_n 0), e1 (.iload_n 3), eS (.invokevirtual 254) 166 1 240, none, none, eV (.iconst 1) 1 1, e1 .iadd, e1 .iaload, e1 (.aload_n 0), 
  eS (.getfield 7) 11 0 83, none, none, e1 (.iconst 0), e1 .iaload, eA (.if_icmp .gt 7) 3 55, none, none, eV (.iconst 1) 1 1, eA (.goto 4) 3 56, none, none, e1 (.iconst 0), e2 (.istore 4), none, e2 (.iload 4), none, 
  eA (.ifCond .eq 38) 3 98, none, none, e1 (.iload_n 2), eA (.ifCond .lt 30) 3 94, none, none, e1 (.aload_n 0), eS (.getfield 7) 11 0 83, none, none, e1 (.aload_n 0), e1 (.iload_n 3), eS (.invokevirtual 254) 166 1 240, 
  none, none, eV (.iconst 1) 1 1, e1 .iadd, e1 .iaload, e1 (.aload_n 0), eS (.getfield 7) 11 0 83, none, none, e1 (.aload_n 0), e1 (.iload_n 2), eS (.invokevirtual 254) 166 1 240, none, none, eV (.iconst 1) 1 1, e1 .iadd, 
  e1 .iaload, eA (.if_icmp .lt 7) 3 98, none, none, e1 (.iload_n 3), eA (.goto 4) 3 99, none, none, e1 (.iload_n 2), e1 (.istore_n 2), eV (.iinc 3 1) 3 1, none, none, eA (.goto (-99)) 3 4, none, none, e1 (.iload_n 2), 
  e1 .ireturn]
set_option maxRecDepth 100000 in
def cd228 : Cd := [e1 (.iload_n 1), e1 .i2l, e1 (.lconst 0), some (.ldc2_w 85, 3, 0, 0, 0, 5, [(0, 0)]), none, none, eS (.invokestatic 67) 159 3 194, none, none, eA (.ifCond .eq 14) 3 23, none, none, e1 (.aload_n 0), e1 (.iload_n 1), 
  eS (.invokevirtual 269) 227 1 259, none, none, eS (.invokestatic 119) 160 1 209, none, none, eA (.goto 5) 3 25, none, none, some (.ldc 87, 2, 0, 0, -1000000001, 0, [(0, 24)]), none, e1 .ireturn]
set_option maxRecDepth 100000 in
def cd229 : Cd := [e1 (.iload_n 0), 
  some (.tableswitch 196 38 62 #[182, 196, 196, 196, 123, 115, 196, 119, 196, 127, 196, 196, 196, 196, 196, 196, 196, 196, 196, 196, 196, 196, 149, 171, 160], 115, 197, 0, 0, 0, [(38, 183), (39, 197), (40, 197), (41, 197), (42, 124), (43, 116), (44, 197), (45, 120), (46, 197), (47, 128), (48, 197), (49, 197), (50, 197), (51, 197), (52, 197), (53, 197), (54, 197), (55, 197), (56, 197), (57, 197), (58, 197), (59, 197), (60, 150), (61, 172), (62, 161)]), 
  none, none, none, none, none, none, none, none, none, none, none, none, none, none, none, none, none, none, none, none, none, none, none, none, none, none, none, none, none, none, none, none, none, none, none, none, none, 
  none, none, none, none, none, none, none, none, none, none, none, none, none, none, none, none, none, none, none, none, none, none, none, none, none, none, none, none, none, none, none, none, none, none, none, none, none, 
  none, none, none, none, none, none, none, none, none, none, none, none, none, none, none, none, none, none, none, none, none, none, none, none, none, none, none, none, none, none, none, none, none, none, none, none, none, 
  none, none, none, e1 (.iload_n 1), e1 (.iload_n 2), e1 .iadd, e1 .ireturn, e1 (.iload_n 1), e1 (.iload_n 2), e1 .isub, e1 .ireturn, e1 (.iload_n 1), e1 (.iload_n 2), e1 .imul, e1 .ireturn, e1 (.iload_n 2), 
  eA (.ifCond .ne 7) 3 136, none, none, e1 (.iconst 0), eA (.goto 16) 3 149, none, none, e1 (.iload_n 2), eV (.iconst (-1)) 1 (-1), eA (.if_icmp .ne 8) 3 146, none, none, e1 (.iload_n 1), e1 .ineg, eA (.goto 6) 3 149, none, 
  none, e1 (.iload_n 1), e1 (.iload_n 2), e1 .idiv, e1 .ireturn, e1 (.iload_n 1), e1 (.iload_n 2), eA (.if_icmp .ge 7) 3 159, none, none, eV (.iconst 1) 1 1, eA (.goto 4) 3 160, none, none, e1 (.iconst 0), e1 .ireturn, 
  e1 (.iload_n 1), e1 (.iload_n 2), eA (.if_icmp .le 7) 3 170, none, none, eV (.iconst 1) 1 1, eA (.goto 4) 3 171, none, none, e1 (.iconst 0), e1 .ireturn, e1 (.iload_n 1), e1 (.iload_n 2), eA (.if_icmp .ne 7) 3 181, none, 
  none, eV (.iconst 1) 1 1, eA (.goto 4) 3 182, none, none, e1 (.iconst 0), e1 .ireturn, e1 (.iload_n 1), eA (.ifCond .eq 11) 3 195, none, none, e1 (.iload_n 2), eA (.ifCond .eq 7) 3 195, none, none, eV (.iconst 1) 1 1, 
  eA (.goto 4) 3 196, none, none, e1 (.iconst 0), e1 .ireturn, e1 (.iload_n 1), eA (.ifCond .ne 7) 3 205, none, none, e1 (.iload_n 2), eA (.ifCond .eq 7) 3 209, none, none, eV (.iconst 1) 1 1, eA (.goto 4) 3 210, none, 
  none, e1 (.iconst 0), e1 .ireturn]
set_option maxRecDepth 100000 in
def cd230 : Cd := [e1 (.iconst 0), e1 (.istore_n 2), e1 (.iconst 0), e1 (.istore_n 3), e1 (.iload_n 3), e1 (.aload_n 0), eS (.getfield 7) 11 0 83, none, none, e1 (.aload_n 0), e1 (.iload_n 1), eS (.invokevirtual 254) 166 1 240, none, none, 
  eV (.iconst 3) 1 3, e1 .iadd, e1 .iaload, eA (.if_icmp .ge 146) 3 163, none, none, e1 (.aload_n 0), eS (.getfield 7) 11 0 83, none, none, e1 (.aload_n 0), e1 (.iload_n 1), eS (.invokevirtual 254) 166 1 240, none, none, 
  eV (.iconst 4) 1 4, e1 .iadd, eV (.iconst 2) 1 2, e1 (.iload_n 3), e1 .imul, e1 .iadd, e1 .iaload, e2 (.istore 4), none, e1 (.aload_n 0), eS (.getfield 7) 11 0 83, none, none, e1 (.aload_n 0), e1 (.iload_n 1), 
  eS (.invokevirtual 254) 166 1 240, none, none, eV (.iconst 4) 1 4, e1 .iadd, eV (.iconst 2) 1 2, e1 (.iload_n 3), e1 .imul, e1 .iadd, eV (.iconst 1) 1 1, e1 .iadd, e1 .iaload, e2 (.istore 5), none, e2 (.iload 4), none, 
  eV (.iconst 2) 1 2, eA (.if_icmp .eq 32) 3 93, none, none, e1 (.aload_n 0), eG (.getfield 54) 11 28 28 111, none, none, e1 (.iload_n 2), e2 (.iload 4), none, eA (.ifCond .ne 8) 3 79, none, none, e2 (.iload 5), none, 
  eA (.goto 10) 3 86, none, none, e1 (.aload_n 0), eG (.getfield 51) 11 27 27 110, none, none, e2 (.iload 5), none, e1 .iaload, e1 .iastore, eV (.iinc 2 1) 3 1, none, none, eA (.goto 67) 3 157, none, none, e2 (.iload 5), 
  none, eV (.bipush 33) 2 33, none, eA (.if_icmp .ne 30) 3 127, none, none, e1 (.aload_n 0), eG (.getfield 54) 11 28 28 111, none, none, e1 (.iload_n 2), eV (.iconst 1) 1 1, e1 .isub, e1 (.aload_n 0), 
  eG (.getfield 54) 11 28 28 111, none, none, e1 (.iload_n 2), eV (.iconst 1) 1 1, e1 .isub, e1 .iaload, eA (.ifCond .ne 7) 3 122, none, none, eV (.iconst 1) 1 1, eA (.goto 4) 3 123, none, none, e1 (.iconst 0), e1 .iastore, 
  eA (.goto 33) 3 157, none, none, eV (.iinc 2 (-1)) 3 (-1), none, none, e1 (.aload_n 0), eG (.getfield 54) 11 28 28 111, none, none, e1 (.iload_n 2), eV (.iconst 1) 1 1, e1 .isub, e2 (.iload 5), none, e1 (.aload_n 0), 
  eG (.getfield 54) 11 28 28 111, none, none, e1 (.iload_n 2), eV (.iconst 1) 1 1, e1 .isub, e1 .iaload, e1 (.aload_n 0), eG (.getfield 54) 11 28 28 111, none, none, e1 (.iload_n 2), e1 .iaload, 
  eS (.invokestatic 272) 229 3 263, none, none, e1 .iastore, eV (.iinc 3 1) 3 1, none, none, eA (.goto (-156)) 3 4, none, none, e1 (.aload_n 0), eG (.getfield 54) 11 28 28 111, none, none, e1 (.iconst 0), e1 .iaload, 
  e1 .ireturn]
set_option maxRecDepth 100000 in
def cd231 : Cd := [e1 (.aload_n 0), eG (.getfield 51) 11 27 27 110, none, none, e1 (.iload_n 1), eA (.ifCond .ne 8) 3 13, none, none, eV (.bipush 110) 2 110, none, eA (.goto 25) 3 35, none, none, e1 (.iload_n 1), eV (.iconst 1) 1 1, 
  eA (.if_icmp .ne 8) 3 23, none, none, eV (.bipush 107) 2 107, none, eA (.goto 15) 3 35, none, none, e1 (.iload_n 1), eV (.iconst 5) 1 5, eA (.if_icmp .ne 8) 3 33, none, none, eV (.bipush 119) 2 119, none, 
  eA (.goto 5) 3 35, none, none, eV (.bipush 103) 2 103, none, e1 (.iload_n 2), e1 .iastore, e1 (.iload_n 1), eA (.ifCond .eq 8) 3 46, none, none, e1 (.iload_n 1), eV (.iconst 5) 1 5, eA (.if_icmp .ne 11) 3 54, none, none, 
  e1 (.aload_n 0), eG (.getfield 51) 11 27 27 110, none, none, eV (.bipush 107) 2 107, none, e1 (.iload_n 3), e1 .iastore, e1 (.iload_n 1), eV (.iconst 2) 1 2, eA (.if_icmp .eq 8) 3 64, none, none, e1 (.iload_n 1), 
  eV (.iconst 3) 1 3, eA (.if_icmp .ne 21) 3 82, none, none, e1 (.aload_n 0), eG (.getfield 51) 11 27 27 110, none, none, e1 (.iload_n 1), eV (.iconst 2) 1 2, eA (.if_icmp .ne 8) 3 78, none, none, eV (.bipush 111) 2 111, 
  none, eA (.goto 5) 3 80, none, none, eV (.bipush 116) 2 116, none, e1 (.iload_n 3), e1 .iastore, e1 (.iload_n 1), eA (.ifCond .ne 12) 3 95, none, none, e1 (.aload_n 0), eG (.getfield 51) 11 27 27 110, none, none, 
  eV (.bipush 114) 2 114, none, e2 (.iload 4), none, e1 .iastore, e1 (.aload_n 0), e1 (.iload_n 1), eS (.invokevirtual 269) 227 1 259, none, none, e2 (.istore 5), none, e2 (.iload 5), none, eA (.ifCond .ge 15) 3 119, none, 
  none, e1 (.iload_n 1), eA (.ifCond .ne 7) 3 115, none, none, e1 (.iload_n 2), eA (.goto 13) 3 125, none, none, e1 (.iconst 0), eA (.goto 9) 3 125, none, none, e1 (.aload_n 0), e2 (.iload 5), none, 
  eS (.invokevirtual 276) 230 1 262, none, none, e2 (.istore 6), none, e2 (.iload 6), none, eA (.ifCond .ge 7) 3 136, none, none, e1 (.iconst 0), eA (.goto 11) 3 144, none, none, e2 (.iload 6), none, 
  eV (.sipush 9999) 3 9999, none, none, eS (.invokestatic 81) 161 2 264, none, none, e1 .ireturn]
set_option maxRecDepth 100000 in
def cd232 : Cd := [e1 (.iload_n 1), e1 .i2l, e1 (.lconst 0), some (.ldc2_w 85, 3, 0, 0, 0, 5, [(0, 0)]), none, none, eS (.invokestatic 67) 159 3 194, none, none, eA (.ifCond .eq 15) 3 24, none, none, e1 (.aload_n 0), e1 (.iload_n 1), 
  e1 (.iload_n 2), e1 (.iload_n 3), e2 (.iload 4), none, eS (.invokevirtual 279) 231 4 261, none, none, eA (.goto 5) 3 26, none, none, some (.ldc 87, 2, 0, 0, -1000000001, 0, [(0, 24)]), none, e1 .ireturn]
set_option maxRecDepth 100000 in
def cd233 : Cd := [e1 (.aload_n 0), e1 (.iload_n 1), eS (.invokevirtual 71) 164 1 205, none, none, e1 (.istore_n 2), e1 (.aload_n 0), eS (.getfield 7) 11 0 83, none, none, e1 (.iload_n 2), eV (.bipush 10) 2 10, none, e1 .iadd, e1 .iaload, 
  e1 (.istore_n 3), e1 (.iload_n 3), e1 (.aload_n 0), eV (.iconst 4) 1 4, e1 (.iload_n 3), e1 (.iconst 0), e1 (.iconst 0), eS (.invokevirtual 279) 231 4 261, none, none, e1 .isub, e2 (.istore 4), none, e2 (.iload 4), none, 
  eA (.ifCond .ge 7) 3 37, none, none, e1 (.iconst 0), eA (.goto 5) 3 39, none, none, e2 (.iload 4), none, e2 (.istore 4), none, e1 (.aload_n 0), e2 (.iload 4), none, e1 (.aload_n 0), eS (.getfield 7) 11 0 83, none, none, 
  e1 (.iload_n 2), eV (.iconst 3) 1 3, e1 .iadd, e1 .iaload, e1 (.aload_n 0), eV (.iconst 2) 1 2, e1 (.iload_n 3), e1 (.aload_n 0), eS (.getfield 7) 11 0 83, none, none, e1 (.iload_n 2), eV (.iconst 3) 1 3, e1 .iadd, 
  e1 .iaload, e1 (.iconst 0), eS (.invokevirtual 279) 231 4 261, none, none, eS (.invokestatic 81) 161 2 264, none, none, eS (.invokestatic 81) 161 2 264, none, none, eG (.putfield 283) 11 29 29 112, none, none, 
  e2 (.iload 4), none, e1 (.aload_n 0), eG (.getfield 283) 11 29 29 112, none, none, e1 .isub, e2 (.istore 4), none, e1 (.aload_n 0), e2 (.iload 4), none, e1 (.aload_n 0), eV (.iconst 3) 1 3, e1 (.iload_n 3), 
  e1 (.aload_n 0), eS (.getfield 7) 11 0 83, none, none, e1 (.iload_n 2), eV (.iconst 2) 1 2, e1 .iadd, e1 .iaload, e1 (.aload_n 0), eS (.getfield 7) 11 0 83, none, none, e1 (.iconst 0), e1 .iaload, e1 .isub, 
  e1 (.iconst 0), eS (.invokevirtual 279) 231 4 261, none, none, eS (.invokestatic 81) 161 2 264, none, none, eG (.putfield 286) 11 30 30 113, none, none, e1 (.aload_n 0), e1 (.iload_n 3), e1 (.aload_n 0), 
  eG (.getfield 283) 11 29 29 112, none, none, e1 .isub, e1 (.aload_n 0), eG (.getfield 286) 11 30 30 113, none, none, e1 .isub, eG (.putfield 289) 11 31 31 114, none, none, e1 .return_]
set_option maxRecDepth 100000 in
def cd234 : Cd := [e1 (.aload_n 0), e1 (.iload_n 1), eS (.invokevirtual 114) 169 1 208, none, none, eA (.ifCond .ne 6) 3 11, none, none, some (.ldc 87, 2, 0, 0, -1000000001, 0, [(0, 24)]), none, e1 .ireturn, e1 (.aload_n 0), 
  e1 (.iload_n 1), eS (.invokevirtual 124) 172 1 214, none, none, eA (.ifCond .eq 6) 3 22, none, none, some (.ldc 134, 2, 0, 0, -1000000002, 0, [(0, 27)]), none, e1 .ireturn, e1 (.aload_n 0), e1 (.iload_n 1), 
  eS (.invokevirtual 292) 233 1 266, none, none, e1 (.aload_n 0), eS (.getfield 7) 11 0 83, none, none, e1 (.aload_n 0), e1 (.iload_n 1), eS (.invokevirtual 71) 164 1 205, none, none, eV (.iconst 3) 1 3, e1 .iadd, e1 .dup2, 
  e1 .iaload, e1 (.aload_n 0), eG (.getfield 283) 11 29 29 112, none, none, e1 .isub, e1 .iastore, e1 (.aload_n 0), e1 (.iload_n 1), eV (.iconst 5) 1 5, e1 (.aload_n 0), eG (.getfield 286) 11 30 30 113, none, none, 
  eS (.invokevirtual 296) 174 3 267, none, none, e1 (.aload_n 0), e1 (.iload_n 1), eV (.iconst 4) 1 4, e1 (.aload_n 0), eG (.getfield 289) 11 31 31 114, none, none, eS (.invokevirtual 296) 174 3 267, none, none, 
  e1 (.aload_n 0), eS (.getfield 7) 11 0 83, none, none, e1 (.aload_n 0), e1 (.iload_n 1), eS (.invokevirtual 71) 164 1 205, none, none, eV (.bipush 10) 2 10, none, e1 .iadd, e1 (.iconst 0), e1 .iastore, e1 (.aload_n 0), 
  eG (.getfield 289) 11 31 31 114, none, none, e1 .ireturn]
set_option maxRecDepth 100000 in
def cd235 : Cd := [e1 (.aload_n 0), e1 (.iload_n 1), eS (.invokevirtual 114) 169 1 208, none, none, eA (.ifCond .eq 15) 3 20, none, none, e1 (.iload_n 2), e1 .i2l, e1 (.lconst 0), some (.ldc2_w 267, 3, 0, 0, 0, 2, [(0, 12)]), none, none, 
  eS (.invokestatic 67) 159 3 194, none, none, eA (.ifCond .ne 6) 3 23, none, none, some (.ldc 87, 2, 0, 0, -1000000001, 0, [(0, 24)]), none, e1 .ireturn, e1 (.aload_n 0), e1 (.iload_n 1), eS (.invokevirtual 124) 172 1 214, 
  none, none, eA (.ifCond .eq 6) 3 34, none, none, some (.ldc 134, 2, 0, 0, -1000000002, 0, [(0, 27)]), none, e1 .ireturn, e1 (.aload_n 0), e1 (.iload_n 1), eS (.invokevirtual 292) 233 1 266, none, none, e1 (.iload_n 2), 
  eA (.ifCond .ne 10) 3 50, none, none, e1 (.aload_n 0), eG (.getfield 283) 11 29 29 112, none, none, eA (.goto 19) 3 66, none, none, e1 (.iload_n 2), eV (.iconst 1) 1 1, eA (.if_icmp .ne 10) 3 62, none, none, 
  e1 (.aload_n 0), eG (.getfield 286) 11 30 30 113, none, none, eA (.goto 7) 3 66, none, none, e1 (.aload_n 0), eG (.getfield 289) 11 31 31 114, none, none, e1 .ireturn]
set_option maxRecDepth 100000 in
def cd236 : Cd := [e1 (.aload_n 0), e1 (.aload_n 0), eS (.getfield 7) 11 0 83, none, none, eV (.iconst 5) 1 5, e1 .iaload, eS (.invokevirtual 299) 167 1 271, none, none, e1 (.istore_n 3), e1 (.aload_n 0), eS (.getfield 7) 11 0 83, none, 
  none, e1 (.iload_n 3), e1 (.iload_n 1), e1 .iastore, e1 (.aload_n 0), eS (.getfield 7) 11 0 83, none, none, e1 (.iload_n 3), eV (.iconst 1) 1 1, e1 .iadd, e1 (.iload_n 2), e1 .iastore, e1 (.aload_n 0), 
  eS (.getfield 7) 11 0 83, none, none, e1 (.iload_n 3), eV (.iconst 2) 1 2, e1 .iadd, e1 (.aload_n 0), eS (.getfield 7) 11 0 83, none, none, e1 (.iconst 0), e1 .iaload, e1 .iastore, e1 (.aload_n 0), 
  eS (.getfield 7) 11 0 83, none, none, e1 (.iload_n 3), eV (.iconst 3) 1 3, e1 .iadd, eV (.iconst (-1)) 1 (-1), e1 .iastore, e1 (.aload_n 0), eS (.getfield 7) 11 0 83, none, none, eV (.iconst 5) 1 5, e1 .dup2, e1 .iaload, 
  eV (.iconst 1) 1 1, e1 .iadd, e1 .iastore, e1 (.aload_n 0), eS (.getfield 7) 11 0 83, none, none, eV (.iconst 5) 1 5, e1 .iaload, eV (.iconst 1) 1 1, e1 .isub, e1 .ireturn]
set_option maxRecDepth 100000 in
def cd237 : Cd := [e1 (.aload_n 0), e1 (.iload_n 1), eS (.invokevirtual 114) 169 1 208, none, none, eA (.ifCond .ne 6) 3 11, none, none, some (.ldc 87, 2, 0, 0, -1000000001, 0, [(0, 24)]), none, e1 .ireturn, e1 (.aload_n 0), 
  e1 (.iload_n 1), eS (.invokevirtual 124) 172 1 214, none, none, eA (.ifCond .eq 6) 3 22, none, none, some (.ldc 134, 2, 0, 0, -1000000002, 0, [(0, 27)]), none, e1 .ireturn, e1 (.aload_n 0), eS (.getfield 7) 11 0 83, none, 
  none, eV (.iconst 5) 1 5, e1 .iaload, eV (.bipush 40) 2 40, none, eA (.if_icmp .ne 6) 3 36, none, none, some (.ldc 88, 2, 0, 0, -1000000003, 0, [(0, 25)]), none, e1 .ireturn, e1 (.aload_n 0), e1 (.iload_n 1), 
  eS (.invokevirtual 71) 164 1 205, none, none, e1 (.istore_n 2), eV (.bipush 99) 2 99, none, e1 (.aload_n 0), eV (.iconst 5) 1 5, e1 (.aload_n 0), eS (.getfield 7) 11 0 83, none, none, e1 (.iload_n 2), eV (.bipush 6) 2 6, 
  none, e1 .iadd, e1 .iaload, e1 (.aload_n 0), eS (.getfield 7) 11 0 83, none, none, e1 (.iload_n 2), eV (.bipush 12) 2 12, none, e1 .iadd, e1 .iaload, e1 .isub, e1 (.aload_n 0), eS (.getfield 7) 11 0 83, none, none, 
  e1 (.iload_n 2), eV (.iconst 1) 1 1, e1 .iadd, e1 .iaload, e1 (.iconst 0), eS (.invokevirtual 279) 231 4 261, none, none, eS (.invokestatic 81) 161 2 264, none, none, e1 (.istore_n 3), e1 (.aload_n 0), 
  eS (.getfield 7) 11 0 83, none, none, e1 (.iload_n 2), eV (.bipush 12) 2 12, none, e1 .iadd, e1 (.aload_n 0), eS (.getfield 7) 11 0 83, none, none, e1 (.iload_n 2), eV (.bipush 6) 2 6, none, e1 .iadd, e1 .iaload, 
  e1 .iastore, e1 (.iload_n 3), eA (.ifCond .le 11) 3 111, none, none, e1 (.aload_n 0), e1 (.iload_n 1), e1 (.iload_n 3), eS (.invokevirtual 302) 236 2 270, none, none, e2 (.istore 4), none, e1 (.iload_n 3), e1 .ireturn]
set_option maxRecDepth 100000 in
def cd238 : Cd := [e1 (.aload_n 0), e1 (.iload_n 1), eS (.invokevirtual 114) 169 1 208, none, none, eA (.ifCond .eq 15) 3 20, none, none, e1 (.iload_n 2), e1 .i2l, some (.lconst 1, 1, 0, 0, 0, 1, []), 
  some (.ldc2_w 96, 3, 0, 0, 0, 99, [(0, 2)]), none, none, eS (.invokestatic 67) 159 3 194, none, none, eA (.ifCond .ne 6) 3 23, none, none, some (.ldc 87, 2, 0, 0, -1000000001, 0, [(0, 24)]), none, e1 .ireturn, 
  e1 (.aload_n 0), e1 (.iload_n 1), eS (.invokevirtual 124) 172 1 214, none, none, eA (.ifCond .eq 8) 3 36, none, none, some (.ldc 134, 2, 0, 0, -1000000002, 0, [(0, 27)]), none, eA (.goto 26) 3 59, none, none, 
  e1 (.aload_n 0), eS (.getfield 7) 11 0 83, none, none, eV (.iconst 5) 1 5, e1 .iaload, eV (.bipush 40) 2 40, none, eA (.if_icmp .ne 8) 3 52, none, none, some (.ldc 88, 2, 0, 0, -1000000003, 0, [(0, 25)]), none, 
  eA (.goto 10) 3 59, none, none, e1 (.aload_n 0), e1 (.iload_n 1), e1 (.iload_n 2), e1 .ineg, eS (.invokevirtual 302) 236 2 270, none, none, e1 .ireturn]
set_option maxRecDepth 100000 in
def cd239 : Cd := [e1 (.iload_n 1), e1 .i2l, e1 (.lconst 0), e1 (.aload_n 0), eS (.getfield 7) 11 0 83, none, none, eV (.iconst 5) 1 5, e1 .iaload, eV (.iconst 1) 1 1, e1 .isub, e1 .i2l, eS (.invokestatic 67) 159 3 194, none, none, 
  e1 .ireturn]
set_option maxRecDepth 100000 in
def cd240 : Cd := [e1 (.aload_n 0), e1 (.iload_n 1), eS (.invokevirtual 305) 239 1 274, none, none, eA (.ifCond .ne 6) 3 11, none, none, some (.ldc 87, 2, 0, 0, -1000000001, 0, [(0, 24)]), none, e1 .ireturn, e1 (.aload_n 0), 
  e1 (.iload_n 1), eS (.invokevirtual 299) 167 1 271, none, none, e1 (.istore_n 2), e1 (.aload_n 0), eS (.getfield 7) 11 0 83, none, none, e1 (.iload_n 2), eV (.iconst 1) 1 1, e1 .iadd, e1 .iaload, eA (.ifCond .le 6) 3 31, 
  none, none, some (.ldc 165, 2, 0, 0, -1000000012, 0, [(0, 28)]), none, e1 .ireturn, e1 (.aload_n 0), eS (.getfield 7) 11 0 83, none, none, e1 (.iload_n 2), eV (.iconst 3) 1 3, e1 .iadd, e1 .iaload, 
  eA (.ifCond .ge 16) 3 55, none, none, e1 (.aload_n 0), e1 (.aload_n 0), eS (.getfield 7) 11 0 83, none, none, e1 (.iload_n 2), e1 .iaload, eS (.invokevirtual 124) 172 1 214, none, none, eA (.ifCond .eq 6) 3 58, none, 
  none, some (.ldc 134, 2, 0, 0, -1000000002, 0, [(0, 27)]), none, e1 .ireturn, e1 (.aload_n 0), eS (.getfield 7) 11 0 83, none, none, e1 (.iload_n 2), eV (.iconst 3) 1 3, e1 .iadd, e1 (.aload_n 0), 
  eS (.getfield 7) 11 0 83, none, none, e1 (.iconst 0), e1 .iaload, e1 .iastore, eV (.iconst 1) 1 1, e1 .ireturn]
set_option maxRecDepth 100000 in
def cd241 : Cd := [e1 (.aload_n 0), e1 (.iload_n 1), eS (.invokevirtual 305) 239 1 274, none, none, eA (.ifCond .eq 15) 3 20, none, none, e1 (.iload_n 2), e1 .i2l, e1 (.lconst 0), some (.ldc2_w 78, 3, 0, 0, 0, 3, [(0, 1)]), none, none, 
  eS (.invokestatic 67) 159 3 194, none, none, eA (.ifCond .ne 6) 3 23, none, none, some (.ldc 87, 2, 0, 0, -1000000001, 0, [(0, 24)]), none, e1 .ireturn, e1 (.aload_n 0), eS (.getfield 7) 11 0 83, none, none, 
  e1 (.aload_n 0), e1 (.iload_n 1), eS (.invokevirtual 299) 167 1 271, none, none, e1 (.iload_n 2), e1 .iadd, e1 .iaload, e1 (.istore_n 3), e1 (.iload_n 2), eV (.iconst 3) 1 3, eA (.if_icmp .ne 10) 3 48, none, none, 
  e1 (.iload_n 3), eS (.invokestatic 119) 160 1 209, none, none, eA (.goto 4) 3 49, none, none, e1 (.iload_n 3), e1 .ireturn]
set_option maxRecDepth 100000 in
def cd242 : Cd := [e1 (.aload_n 0), eS (.getfield 7) 11 0 83, none, none, e1 (.aload_n 0), e1 (.iload_n 1), eS (.invokevirtual 71) 164 1 205, none, none, eV (.iconst 2) 1 2, e1 .iadd, e1 .iaload, e1 (.istore_n 3), e1 (.iconst 0), 
  e2 (.istore 4), none, e2 (.iload 4), none, e1 (.aload_n 0), eS (.getfield 7) 11 0 83, none, none, eV (.iconst 5) 1 5, e1 .iaload, eA (.if_icmp .ge 94) 3 118, none, none, e1 (.aload_n 0), e2 (.iload 4), none, 
  eS (.invokevirtual 299) 167 1 271, none, none, e2 (.istore 5), none, e1 (.aload_n 0), eS (.getfield 7) 11 0 83, none, none, e2 (.iload 5), none, e1 .iaload, e1 (.iload_n 1), eA (.if_icmp .ne 45) 3 88, none, none, 
  e1 (.aload_n 0), eS (.getfield 7) 11 0 83, none, none, e2 (.iload 5), none, eV (.iconst 2) 1 2, e1 .iadd, e1 .iaload, e1 (.iload_n 2), eA (.if_icmp .gt 32) 3 88, none, none, e1 (.aload_n 0), eS (.getfield 7) 11 0 83, 
  none, none, e2 (.iload 5), none, eV (.iconst 3) 1 3, e1 .iadd, e1 .iaload, eA (.ifCond .lt 16) 3 84, none, none, e1 (.aload_n 0), eS (.getfield 7) 11 0 83, none, none, e2 (.iload 5), none, eV (.iconst 3) 1 3, e1 .iadd, 
  e1 .iaload, e1 (.iload_n 2), eA (.if_icmp .le 7) 3 88, none, none, eV (.iconst 1) 1 1, eA (.goto 4) 3 89, none, none, e1 (.iconst 0), e2 (.istore 6), none, e1 (.iload_n 3), e2 (.iload 6), none, eA (.ifCond .eq 15) 3 109, 
  none, none, e1 (.aload_n 0), eS (.getfield 7) 11 0 83, none, none, e2 (.iload 5), none, eV (.iconst 1) 1 1, e1 .iadd, e1 .iaload, eA (.goto 4) 3 110, none, none, e1 (.iconst 0), e1 .isub, e1 (.istore_n 3), 
  eV (.iinc 4 1) 3 1, none, none, eA (.goto (-99)) 3 16, none, none, e1 (.iload_n 3), e1 .ireturn]
set_option maxRecDepth 100000 in
def cd243 : Cd := [e1 (.aload_n 0), e1 (.iload_n 1), eS (.invokevirtual 114) 169 1 208, none, none, eA (.ifCond .eq 24) 3 29, none, none, e1 (.iload_n 2), e1 .i2l, e1 (.lconst 0), some (.ldc2_w 112, 3, 0, 0, 0, 999, [(0, 4)]), none, none, 
  eS (.invokestatic 67) 159 3 194, none, none, eA (.ifCond .eq 12) 3 29, none, none, e1 (.aload_n 0), e1 (.iload_n 1), e1 (.iload_n 2), eS (.invokevirtual 308) 242 2 277, none, none, eA (.goto 5) 3 31, none, none, 
  some (.ldc 87, 2, 0, 0, -1000000001, 0, [(0, 24)]), none, e1 .ireturn]
set_option maxRecDepth 100000 in
def cd244 : Cd := [e1 (.aload_n 0), e1 (.iload_n 1), eS (.invokevirtual 71) 164 1 205, none, none, e1 (.istore_n 2), e1 (.aload_n 0), e1 (.aload_n 0), eS (.getfield 7) 11 0 83, none, none, e1 (.iload_n 2), eV (.bipush 8) 2 8, none, 
  e1 .iadd, e1 .iaload, eS (.invokevirtual 89) 163 1 195, none, none, e1 (.istore_n 3), e1 (.aload_n 0), eS (.getfield 7) 11 0 83, none, none, e1 (.iload_n 2), eV (.bipush 9) 2 9, none, e1 .iadd, e1 .iaload, 
  e1 (.aload_n 0), eS (.getfield 7) 11 0 83, none, none, e1 (.iconst 0), e1 .iaload, eA (.if_icmp .ne 4) 3 39, none, none, e1 .return_, e1 (.aload_n 0), eS (.getfield 7) 11 0 83, none, none, e1 (.iload_n 3), 
  eV (.iconst 4) 1 4, e1 .iadd, e1 .iaload, eA (.ifCond .le 26) 3 73, none, none, e1 (.aload_n 0), e1 (.iload_n 1), eV (.bipush 10) 2 10, none, e1 (.aload_n 0), eV (.iconst 1) 1 1, e1 (.aload_n 0), eS (.getfield 7) 11 0 83, 
  none, none, e1 (.iload_n 2), eV (.iconst 1) 1 1, e1 .iadd, e1 .iaload, e1 (.iconst 0), e1 (.iconst 0), eS (.invokevirtual 279) 231 4 261, none, none, eS (.invokevirtual 296) 174 3 267, none, none, e1 .return_, 
  e1 (.aload_n 0), eS (.getfield 7) 11 0 83, none, none, e1 (.iload_n 3), eV (.iconst 3) 1 3, e1 .iadd, e1 .iaload, e1 (.aload_n 0), eS (.getfield 7) 11 0 83, none, none, e1 (.iload_n 2), eV (.iconst 1) 1 1, e1 .iadd, 
  e1 .iaload, e1 .iadd, e2 (.istore 4), none, e1 (.aload_n 0), e1 (.iload_n 1), eV (.bipush 10) 2 10, none, e1 (.aload_n 0), e1 (.iconst 0), e2 (.iload 4), none, e1 (.aload_n 0), eS (.getfield 7) 11 0 83, none, none, 
  e1 (.iload_n 2), eV (.iconst 1) 1 1, e1 .iadd, e1 .iaload, e1 (.aload_n 0), eS (.getfield 7) 11 0 83, none, none, e1 (.iload_n 2), e1 (.iconst 0), e1 .iadd, e1 .iaload, eS (.invokevirtual 279) 231 4 261, none, none, 
  eS (.invokevirtual 296) 174 3 267, none, none, e1 (.aload_n 0), eS (.getfield 7) 11 0 83, none, none, e1 (.iload_n 2), eV (.bipush 6) 2 6, none, e1 .iadd, e1 .dup2, e1 .iaload, eV (.iconst 1) 1 1, e1 .iadd, e1 .iastore, 
  e1 (.aload_n 0), eS (.getfield 7) 11 0 83, none, none, e1 (.iload_n 2), eV (.bipush 7) 2 7, none, e1 .iadd, e1 .dup2, e1 .iaload, eV (.iconst 1) 1 1, e1 .iadd, e1 .iastore, e1 (.aload_n 0), eS (.getfield 7) 11 0 83, none, 
  none, e1 (.iload_n 2), eV (.bipush 7) 2 7, none, e1 .iadd, e1 .iaload, eV (.bipush 10) 2 10, none, eA (.if_icmp .ne 35) 3 194, none, none, e1 (.aload_n 0), eS (.getfield 7) 11 0 83, none, none, e1 (.iload_n 2), 
  eV (.iconst 1) 1 1, e1 .iadd, eV (.iconst 3) 1 3, e1 (.aload_n 0), eS (.getfield 7) 11 0 83, none, none, e1 (.iload_n 2), eV (.iconst 1) 1 1, e1 .iadd, e1 .iaload, eV (.iconst 1) 1 1, e1 .iadd, 
  eS (.invokestatic 81) 161 2 264, none, none, e1 .iastore, e1 (.aload_n 0), eS (.getfield 7) 11 0 83, none, none, e1 (.iload_n 2), eV (.bipush 7) 2 7, none, e1 .iadd, e1 (.iconst 0), e1 .iastore, e1 (.aload_n 0), 
  eS (.getfield 7) 11 0 83, none, none, e1 (.iload_n 3), eV (.bipush 6) 2 6, none, e1 .iadd, e1 .dup2, e1 .iaload, e2 (.iload 4), none, e1 .iadd, e1 .iastore, e1 .return_]
set_option maxRecDepth 100000 in
def cd245 : Cd := [e1 (.aload_n 0), e1 (.iload_n 1), eS (.invokevirtual 166) 205 1 235, none, none, e1 (.istore_n 2), e1 (.iload_n 2), eA (.ifCond .lt 87) 3 94, none, none, e1 (.aload_n 0), eS (.getfield 7) 11 0 83, none, none, 
  e1 (.aload_n 0), e1 (.iload_n 1), eS (.invokevirtual 89) 163 1 195, none, none, eV (.bipush 6) 2 6, none, e1 .iadd, e1 .iaload, e1 (.aload_n 0), eS (.getfield 7) 11 0 83, none, none, e1 (.aload_n 0), e1 (.iload_n 2), 
  eS (.invokevirtual 75) 165 1 203, none, none, eV (.iconst 2) 1 2, e1 .iadd, e1 .iaload, eA (.if_icmp .lt 59) 3 94, none, none, e1 (.aload_n 0), eS (.getfield 7) 11 0 83, none, none, e1 (.aload_n 0), e1 (.iload_n 1), 
  eS (.invokevirtual 89) 163 1 195, none, none, eV (.bipush 6) 2 6, none, e1 .iadd, e1 .dup2, e1 .iaload, e1 (.aload_n 0), eS (.getfield 7) 11 0 83, none, none, e1 (.aload_n 0), e1 (.iload_n 2), 
  eS (.invokevirtual 75) 165 1 203, none, none, eV (.iconst 2) 1 2, e1 .iadd, e1 .iaload, e1 .isub, e1 .iastore, e1 (.aload_n 0), eS (.getfield 7) 11 0 83, none, none, e1 (.aload_n 0), e1 (.iload_n 2), 
  eS (.invokevirtual 75) 165 1 203, none, none, eV (.bipush 6) 2 6, none, e1 .iadd, e1 (.aload_n 0), eS (.getfield 7) 11 0 83, none, none, e1 (.iconst 0), e1 .iaload, e1 .iastore, e1 (.aload_n 0), e1 (.iload_n 1), 
  eS (.invokevirtual 166) 205 1 235, none, none, e1 (.istore_n 2), eA (.goto (-85)) 3 6, none, none, e1 .return_]
set_option maxRecDepth 100000 in
def cd246 : Cd := [e1 (.aload_n 0), e1 (.iload_n 1), eS (.invokevirtual 71) 164 1 205, none, none, e1 (.istore_n 2), e1 (.aload_n 0), eS (.getfield 7) 11 0 83, none, none, e1 (.iload_n 2), eV (.bipush 11) 2 11, none, e1 .iadd, 
  eV (.iconst 1) 1 1, e1 .iastore, e1 (.aload_n 0), e1 (.iload_n 1), eV (.iconst 4) 1 4, e1 (.aload_n 0), eS (.getfield 7) 11 0 83, none, none, e1 (.iload_n 2), eV (.bipush 10) 2 10, none, e1 .iadd, e1 .iaload, 
  e1 (.aload_n 0), eS (.getfield 7) 11 0 83, none, none, e1 (.iload_n 2), eV (.iconst 5) 1 5, e1 .iadd, e1 .iaload, e1 .iadd, eS (.invokevirtual 296) 174 3 267, none, none, e1 (.aload_n 0), eS (.getfield 7) 11 0 83, none, 
  none, e1 (.iload_n 2), eV (.bipush 10) 2 10, none, e1 .iadd, e1 (.iconst 0), e1 .iastore, e1 (.aload_n 0), eS (.getfield 7) 11 0 83, none, none, e1 (.iload_n 2), eV (.iconst 5) 1 5, e1 .iadd, e1 (.iconst 0), e1 .iastore, 
  e1 (.aload_n 0), eS (.getfield 7) 11 0 83, none, none, e1 (.iload_n 2), eV (.bipush 8) 2 8, none, e1 .iadd, eV (.iconst (-1)) 1 (-1), e1 .iastore, e1 (.iconst 0), e1 (.istore_n 3), e1 (.iload_n 3), e1 (.aload_n 0), 
  eS (.getfield 7) 11 0 83, none, none, eV (.iconst 3) 1 3, e1 .iaload, eA (.if_icmp .ge 62) 3 140, none, none, e1 (.aload_n 0), e1 (.iload_n 3), eS (.invokevirtual 75) 165 1 203, none, none, e2 (.istore 4), none, 
  e1 (.aload_n 0), eS (.getfield 7) 11 0 83, none, none, e2 (.iload 4), none, eV (.iconst 4) 1 4, e1 .iadd, e1 .iaload, eV (.iconst 1) 1 1, eA (.if_icmp .ne 36) 3 134, none, none, e1 (.aload_n 0), eS (.getfield 7) 11 0 83, 
  none, none, e2 (.iload 4), none, eV (.iconst 5) 1 5, e1 .iadd, e1 .iaload, e1 (.iload_n 1), eA (.if_icmp .ne 23) 3 134, none, none, e1 (.aload_n 0), eS (.getfield 7) 11 0 83, none, none, e2 (.iload 4), none, 
  eV (.iconst 4) 1 4, e1 .iadd, eV (.iconst 2) 1 2, e1 .iastore, e1 (.aload_n 0), eS (.getfield 7) 11 0 83, none, none, e2 (.iload 4), none, eV (.iconst 5) 1 5, e1 .iadd, eV (.iconst (-1)) 1 (-1), e1 .iastore, 
  eV (.iinc 3 1) 3 1, none, none, eA (.goto (-66)) 3 71, none, none, e1 .return_]
set_option maxRecDepth 100000 in
def cd247 : Cd := [e1 (.iconst 0), e1 (.istore_n 1), e1 (.iload_n 1), e1 (.aload_n 0), eS (.getfield 7) 11 0 83, none, none, eV (.iconst 2) 1 2, e1 .iaload, eA (.if_icmp .ge 38) 3 47, none, none, e1 (.aload_n 0), e1 (.iload_n 1), 
  eS (.invokevirtual 124) 172 1 214, none, none, eA (.ifCond .ne 24) 3 41, none, none, e1 (.aload_n 0), eS (.getfield 7) 11 0 83, none, none, e1 (.aload_n 0), e1 (.iload_n 1), eS (.invokevirtual 71) 164 1 205, none, none, 
  eV (.bipush 8) 2 8, none, e1 .iadd, e1 .iaload, eA (.ifCond .lt 8) 3 41, none, none, e1 (.aload_n 0), e1 (.iload_n 1), eS (.invokevirtual 311) 244 1 280, none, none, eV (.iinc 1 1) 3 1, none, none, eA (.goto (-42)) 3 2, 
  none, none, e1 (.iconst 0), e1 (.istore_n 1), e1 (.iload_n 1), e1 (.aload_n 0), eS (.getfield 7) 11 0 83, none, none, eV (.iconst 1) 1 1, e1 .iaload, eA (.if_icmp .ge 14) 3 70, none, none, e1 (.aload_n 0), 
  e1 (.iload_n 1), eS (.invokevirtual 314) 245 1 281, none, none, eV (.iinc 1 1) 3 1, none, none, eA (.goto (-18)) 3 49, none, none, e1 (.iconst 0), e1 (.istore_n 1), e1 (.iload_n 1), e1 (.aload_n 0), 
  eS (.getfield 7) 11 0 83, none, none, eV (.iconst 1) 1 1, e1 .iaload, eA (.if_icmp .ge 44) 3 123, none, none, e1 (.aload_n 0), eS (.getfield 7) 11 0 83, none, none, e1 (.aload_n 0), e1 (.iload_n 1), 
  eS (.invokevirtual 89) 163 1 195, none, none, eV (.iconst 4) 1 4, e1 .iadd, e1 .dup2, e1 .iaload, e1 (.aload_n 0), eS (.getfield 7) 11 0 83, none, none, e1 (.aload_n 0), e1 (.iload_n 1), eS (.invokevirtual 89) 163 1 195, 
  none, none, eV (.iconst 4) 1 4, e1 .iadd, e1 .iaload, eA (.ifCond .le 7) 3 114, none, none, eV (.iconst 1) 1 1, eA (.goto 4) 3 115, none, none, e1 (.iconst 0), e1 .isub, e1 .iastore, eV (.iinc 1 1) 3 1, none, none, 
  eA (.goto (-48)) 3 72, none, none, e1 (.iconst 0), e1 (.istore_n 1), e1 (.iload_n 1), e1 (.aload_n 0), eS (.getfield 7) 11 0 83, none, none, eV (.iconst 2) 1 2, e1 .iaload, eA (.if_icmp .ge 42) 3 174, none, none, 
  e1 (.aload_n 0), e1 (.iload_n 1), eS (.invokevirtual 124) 172 1 214, none, none, eA (.ifCond .ne 28) 3 168, none, none, e1 (.aload_n 0), e1 (.iload_n 1), e1 (.aload_n 0), eS (.getfield 7) 11 0 83, none, none, 
  e1 (.iconst 0), e1 .iaload, eS (.invokevirtual 308) 242 2 277, none, none, e1 (.aload_n 0), eS (.getfield 7) 11 0 83, none, none, e1 (.iconst 0), e1 .iaload, eA (.if_icmp .gt 8) 3 168, none, none, e1 (.aload_n 0), 
  e1 (.iload_n 1), eS (.invokevirtual 317) 246 1 282, none, none, eV (.iinc 1 1) 3 1, none, none, eA (.goto (-46)) 3 125, none, none, e1 (.aload_n 0), eS (.getfield 7) 11 0 83, none, none, e1 (.iconst 0), e1 .dup2, 
  e1 .iaload, eV (.iconst 1) 1 1, e1 .iadd, e1 .iastore, e1 .return_]
set_option maxRecDepth 100000 in
def cd248 : Cd := [e1 (.iload_n 1), e1 .i2l, some (.lconst 1, 1, 0, 0, 0, 1, []), some (.ldc2_w 320, 3, 0, 0, 0, 60, [(0, 13)]), none, none, eS (.invokestatic 67) 159 3 194, none, none, eA (.ifCond .ne 6) 3 15, none, none, 
  some (.ldc 87, 2, 0, 0, -1000000001, 0, [(0, 24)]), none, e1 .ireturn, e1 (.aload_n 0), eS (.getfield 7) 11 0 83, none, none, e1 (.iconst 0), e1 .iaload, e1 (.iload_n 1), e1 .iadd, eV (.sipush 999) 3 999, none, none, 
  eA (.if_icmp .le 6) 3 32, none, none, some (.ldc 88, 2, 0, 0, -1000000003, 0, [(0, 25)]), none, e1 .ireturn, e1 (.iconst 0), e1 (.istore_n 2), e1 (.iload_n 2), e1 (.iload_n 1), eA (.if_icmp .ge 13) 3 49, none, none, 
  e1 (.aload_n 0), eS (.invokevirtual 322) 247 0 279, none, none, eV (.iinc 2 1) 3 1, none, none, eA (.goto (-12)) 3 34, none, none, e1 (.aload_n 0), eS (.getfield 7) 11 0 83, none, none, e1 (.iconst 0), e1 .iaload, 
  e1 .ireturn]
set_option maxRecDepth 100000 in
def cd249 : Cd := [e1 (.iload_n 1), e1 .i2l, e1 (.lconst 0), some (.ldc2_w 325, 3, 0, 0, 0, 65535, [(0, 14)]), none, none, eS (.invokestatic 67) 159 3 194, none, none, eA (.ifCond .eq 13) 3 22, none, none, e1 (.aload_n 0), 
  eV (.bipush 6) 2 6, none, e1 (.iload_n 1), eS (.invokevirtual 98) 162 2 198, none, none, eA (.goto 5) 3 24, none, none, some (.ldc 87, 2, 0, 0, -1000000001, 0, [(0, 24)]), none, e1 .ireturn]
set_option maxRecDepth 100000 in
def cd250 : Cd := [e1 (.iload_n 1), e1 .i2l, some (.lconst 1, 1, 0, 0, 0, 1, []), some (.ldc2_w 104, 3, 0, 0, 0, 10, [(0, 3)]), none, none, eS (.invokestatic 67) 159 3 194, none, none, eA (.ifCond .ne 6) 3 15, none, none, 
  some (.ldc 87, 2, 0, 0, -1000000001, 0, [(0, 24)]), none, e1 .ireturn, e1 (.iconst 0), e1 (.istore_n 2), e1 (.iconst 0), e1 (.istore_n 3), e1 (.iconst 0), e2 (.istore 4), none, e2 (.iload 4), none, e1 (.aload_n 0), 
  eS (.getfield 7) 11 0 83, none, none, eV (.iconst 2) 1 2, e1 .iaload, eA (.if_icmp .ge 46) 3 76, none, none, e1 (.iload_n 2), e1 (.aload_n 0), e2 (.iload 4), none, eS (.invokevirtual 124) 172 1 214, none, none, 
  eA (.ifCond .eq 7) 3 47, none, none, e1 (.iconst 0), eA (.goto 7) 3 51, none, none, eV (.iconst 1) 1 1, e2 (.iload 4), none, e1 .ishl, e1 .ior, e1 (.istore_n 2), e1 (.iload_n 3), e1 (.aload_n 0), e2 (.iload 4), none, 
  eS (.invokevirtual 124) 172 1 214, none, none, eA (.ifCond .eq 7) 3 67, none, none, e1 (.iconst 0), eA (.goto 4) 3 68, none, none, eV (.iconst 1) 1 1, e1 .iadd, e1 (.istore_n 3), eV (.iinc 4 1) 3 1, none, none, 
  eA (.goto (-51)) 3 22, none, none, e1 (.iconst 0), e2 (.istore 4), none, e1 (.iconst 0), e2 (.istore 5), none, e2 (.iload 5), none, e1 (.iload_n 1), eA (.if_icmp .ge 105) 3 190, none, none, e1 (.iload_n 3), 
  eA (.ifCond .le 101) 3 190, none, none, e1 (.aload_n 0), eS (.getfield 7) 11 0 83, none, none, eV (.bipush 6) 2 6, none, e1 (.aload_n 0), eS (.getfield 7) 11 0 83, none, none, eV (.bipush 6) 2 6, none, e1 .iaload, 
  eV (.sipush 25173) 3 25173, none, none, e1 .imul, eV (.sipush 13849) 3 13849, none, none, e1 .iadd, eG (.ldc_w 327) 0 0 65536 30, none, none, e1 .irem, e1 .iastore, e1 (.aload_n 0), eS (.getfield 7) 11 0 83, none, none, 
  eV (.bipush 6) 2 6, none, e1 .iaload, e1 (.iload_n 3), e1 .irem, e2 (.istore 6), none, e1 (.iconst 0), e2 (.istore 7), none, e1 (.iload_n 2), e2 (.iload 7), none, e1 .ishr, eV (.iconst 1) 1 1, e1 .iand, 
  eA (.ifCond .eq 8) 3 146, none, none, e2 (.iload 6), none, eA (.ifCond .le 20) 3 163, none, none, e2 (.iload 6), none, e1 (.iload_n 2), e2 (.iload 7), none, e1 .ishr, eV (.iconst 1) 1 1, e1 .iand, e1 .isub, 
  e2 (.istore 6), none, eV (.iinc 7 1) 3 1, none, none, eA (.goto (-28)) 3 132, none, none, e1 (.iload_n 2), eV (.iconst 1) 1 1, e2 (.iload 7), none, e1 .ishl, eV (.iconst (-1)) 1 (-1), e1 .ixor, e1 .iand, e1 (.istore_n 2), 
  e2 (.iload 4), none, eV (.iconst 1) 1 1, e2 (.iload 7), none, e1 .ishl, e1 .ior, e2 (.istore 4), none, eV (.iinc 3 (-1)) 3 (-1), none, none, eV (.iinc 5 1) 3 1, none, none, eA (.goto (-105)) 3 82, none, none, 
  e2 (.iload 4), none, e1 .ireturn]
set_option maxRecDepth 100000 in
def cd251 : Cd := [e1 (.iload_n 0), e1 .i2l, e1 (.lconst 0), some (.ldc2_w 78, 3, 0, 0, 0, 3, [(0, 1)]), none, none, eS (.invokestatic 67) 159 3 194, none, none, e1 .ireturn]
set_option maxRecDepth 100000 in
def cd252 : Cd := [e1 (.iload_n 0), eA (.ifCond .ne 13) 3 14, none, none, e1 (.lload_n 1), eV (.bipush 56) 2 56, none, e1 .lshl, eV (.bipush 56) 2 56, none, e1 .lshr, eA (.goto 19) 3 30, none, none, e1 (.iload_n 0), eV (.iconst 1) 1 1, 
  eA (.if_icmp .ne 13) 3 29, none, none, e1 (.lload_n 1), eV (.bipush 48) 2 48, none, e1 .lshl, eV (.bipush 48) 2 48, none, e1 .lshr, eA (.goto 4) 3 30, none, none, e1 (.lload_n 1), e1 .lreturn]
set_option maxRecDepth 100000 in
def cd253 : Cd := [e1 (.iload_n 1), eS (.invokestatic 328) 251 1 286, none, none, eA (.ifCond .eq 27) 3 31, none, none, e1 (.iload_n 2), e1 .i2l, some (.ldc2_w 331, 3, 0, 0, 0, -1, [(0, 15)]), none, none, 
  some (.ldc2_w 267, 3, 0, 0, 0, 2, [(0, 12)]), none, none, eS (.invokestatic 67) 159 3 194, none, none, eA (.ifCond .eq 13) 3 31, none, none, e1 (.iload_n 2), eA (.ifCond .lt 12) 3 34, none, none, e1 (.iload_n 3), 
  eV (.bipush 24) 2 24, none, eA (.if_icmp .le 6) 3 34, none, none, some (.ldc 87, 2, 0, 0, -1000000001, 0, [(0, 24)]), none, e1 .ireturn, e1 (.iload_n 2), eA (.ifCond .lt 11) 3 46, none, none, e1 (.iload_n 3), 
  eA (.ifCond .ge 7) 3 46, none, none, eG (.ldc_w 333) 0 0 (-1000000014) 31, none, none, e1 .ireturn, e1 (.aload_n 0), eG (.getfield 19) 11 4 4 87, none, none, e1 (.iload_n 1), e1 (.iload_n 2), e1 .iastore, e1 (.aload_n 0), 
  eG (.getfield 22) 11 5 5 88, none, none, e1 (.iload_n 1), e1 (.iload_n 2), eA (.ifCond .ge 7) 3 66, none, none, e1 (.iconst 0), eA (.goto 4) 3 67, none, none, e1 (.iload_n 3), e1 .iastore, e1 (.iconst 0), e2 (.istore 4), 
  none, e2 (.iload 4), none, eV (.bipush 24) 2 24, none, eA (.if_icmp .ge 22) 3 97, none, none, e1 (.aload_n 0), eG (.getfield 25) 11 6 6 89, none, none, eV (.bipush 24) 2 24, none, e1 (.iload_n 1), e1 .imul, e2 (.iload 4), 
  none, e1 .iadd, e1 (.lconst 0), e1 .lastore, eV (.iinc 4 1) 3 1, none, none, eA (.goto (-23)) 3 71, none, none, e1 (.aload_n 0), eG (.getfield 22) 11 5 5 88, none, none, e1 (.iload_n 1), e1 .iaload, e1 .ireturn]
set_option maxRecDepth 100000 in
def cd254 : Cd := [e1 (.iload_n 1), eS (.invokestatic 328) 251 1 286, none, none, eA (.ifCond .ne 6) 3 10, none, none, some (.ldc 87, 2, 0, 0, -1000000001, 0, [(0, 24)]), none, e1 .ireturn, e1 (.aload_n 0), eG (.getfield 19) 11 4 4 87, 
  none, none, e1 (.iload_n 1), e1 .iaload, eA (.ifCond .ge 9) 3 25, none, none, eG (.ldc_w 334) 0 0 (-1000000011) 32, none, none, eA (.goto 28) 3 50, none, none, e1 (.iload_n 2), e1 .i2l, e1 (.lconst 0), e1 (.aload_n 0), 
  eG (.getfield 22) 11 5 5 88, none, none, e1 (.iload_n 1), e1 .iaload, eV (.iconst 1) 1 1, e1 .isub, e1 .i2l, eS (.invokestatic 67) 159 3 194, none, none, eA (.ifCond .eq 7) 3 47, none, none, e1 (.iconst 0), 
  eA (.goto 6) 3 50, none, none, eG (.ldc_w 335) 0 0 (-1000000013) 33, none, none, e1 .ireturn]
set_option maxRecDepth 100000 in
def cd255 : Cd := [e1 (.aload_n 0), e1 (.iload_n 1), e1 (.iload_n 2), eS (.invokevirtual 336) 254 2 288, none, none, e2 (.istore 4), none, e2 (.iload 4), none, eA (.ifCond .eq 6) 3 16, none, none, e2 (.iload 4), none, e1 .ireturn, 
  e1 (.aload_n 0), eG (.getfield 25) 11 6 6 89, none, none, eV (.bipush 24) 2 24, none, e1 (.iload_n 1), e1 .imul, e1 (.iload_n 2), e1 .iadd, e1 (.aload_n 0), eG (.getfield 19) 11 4 4 87, none, none, e1 (.iload_n 1), 
  e1 .iaload, e1 (.iload_n 3), e1 .i2l, eS (.invokestatic 339) 252 2 289, none, none, e1 .lastore, e1 (.aload_n 0), eG (.getfield 25) 11 6 6 89, none, none, eV (.bipush 24) 2 24, none, e1 (.iload_n 1), e1 .imul, 
  e1 (.iload_n 2), e1 .iadd, e1 .laload, e1 .l2i, e1 .ireturn]
set_option maxRecDepth 100000 in
def cd256 : Cd := [e1 (.aload_n 0), e1 (.iload_n 1), e1 (.iload_n 2), eS (.invokevirtual 336) 254 2 288, none, none, e2 (.istore 4), none, e2 (.iload 4), none, eA (.ifCond .eq 6) 3 16, none, none, e2 (.iload 4), none, e1 .ireturn, 
  e1 (.aload_n 0), eG (.getfield 25) 11 6 6 89, none, none, eV (.bipush 24) 2 24, none, e1 (.iload_n 1), e1 .imul, e1 (.iload_n 2), e1 .iadd, e1 (.aload_n 0), eG (.getfield 19) 11 4 4 87, none, none, e1 (.iload_n 1), 
  e1 .iaload, e1 (.aload_n 0), eG (.getfield 25) 11 6 6 89, none, none, eV (.bipush 24) 2 24, none, e1 (.iload_n 1), e1 .imul, e1 (.iload_n 2), e1 .iadd, e1 .laload, some (.ldc2_w 343, 3, 0, 0, 0, 1000, [(0, 16)]), none, 
  none, e1 .lmul, e1 (.iload_n 3), e1 .i2l, e1 .ladd, eS (.invokestatic 339) 252 2 289, none, none, e1 .lastore, e1 (.aload_n 0), eG (.getfield 25) 11 6 6 89, none, none, eV (.bipush 24) 2 24, none, e1 (.iload_n 1), 
  e1 .imul, e1 (.iload_n 2), e1 .iadd, e1 .laload, e1 .l2i, e1 .ireturn]
set_option maxRecDepth 100000 in
def cd257 : Cd := [e1 (.iload_n 1), eS (.invokestatic 328) 251 1 286, none, none, eA (.ifCond .eq 10) 3 14, none, none, e1 (.iload_n 3), eS (.invokestatic 328) 251 1 286, none, none, eA (.ifCond .ne 6) 3 17, none, none, 
  some (.ldc 87, 2, 0, 0, -1000000001, 0, [(0, 24)]), none, e1 .ireturn, e1 (.aload_n 0), eG (.getfield 19) 11 4 4 87, none, none, e1 (.iload_n 1), e1 .iaload, eA (.ifCond .lt 12) 3 35, none, none, e1 (.aload_n 0), 
  eG (.getfield 19) 11 4 4 87, none, none, e1 (.iload_n 3), e1 .iaload, eA (.ifCond .ge 7) 3 39, none, none, eG (.ldc_w 334) 0 0 (-1000000011) 32, none, none, e1 .ireturn, e1 (.aload_n 0), eG (.getfield 19) 11 4 4 87, none, 
  none, e1 (.iload_n 1), e1 .iaload, e1 (.aload_n 0), eG (.getfield 19) 11 4 4 87, none, none, e1 (.iload_n 3), e1 .iaload, eA (.if_icmp .eq 6) 3 57, none, none, some (.ldc 165, 2, 0, 0, -1000000012, 0, [(0, 28)]), none, 
  e1 .ireturn, e1 (.iload_n 2), eA (.ifCond .lt 48) 3 106, none, none, e2 (.iload 4), none, eA (.ifCond .lt 43) 3 106, none, none, e2 (.iload 5), none, eA (.ifCond .lt 38) 3 106, none, none, e1 (.iload_n 2), e1 .i2l, 
  e2 (.iload 5), none, e1 .i2l, e1 .ladd, e1 (.aload_n 0), eG (.getfield 22) 11 5 5 88, none, none, e1 (.iload_n 1), e1 .iaload, e1 .i2l, e1 .lcmp, eA (.ifCond .gt 21) 3 106, none, none, e2 (.iload 4), none, e1 .i2l, 
  e2 (.iload 5), none, e1 .i2l, e1 .ladd, e1 (.aload_n 0), eG (.getfield 22) 11 5 5 88, none, none, e1 (.iload_n 3), e1 .iaload, e1 .i2l, e1 .lcmp, eA (.ifCond .le 7) 3 110, none, none, eG (.ldc_w 335) 0 0 (-1000000013) 33, 
  none, none, e1 .ireturn, e1 (.iconst 0), e2 (.istore 6), none, e2 (.iload 6), none, e2 (.iload 5), none, eA (.if_icmp .ge 30) 3 147, none, none, e1 (.aload_n 0), eG (.getfield 57) 11 32 32 115, none, none, e2 (.iload 6), 
  none, e1 (.aload_n 0), eG (.getfield 25) 11 6 6 89, none, none, eV (.bipush 24) 2 24, none, e1 (.iload_n 1), e1 .imul, e1 (.iload_n 2), e1 .iadd, e2 (.iload 6), none, e1 .iadd, e1 .laload, e1 .lastore, eV (.iinc 6 1) 3 1, 
  none, none, eA (.goto (-31)) 3 113, none, none, e1 (.iconst 0), e2 (.istore 6), none, e2 (.iload 6), none, e2 (.iload 5), none, eA (.if_icmp .ge 31) 3 185, none, none, e1 (.aload_n 0), eG (.getfield 25) 11 6 6 89, none, 
  none, eV (.bipush 24) 2 24, none, e1 (.iload_n 3), e1 .imul, e2 (.iload 4), none, e1 .iadd, e2 (.iload 6), none, e1 .iadd, e1 (.aload_n 0), eG (.getfield 57) 11 32 32 115, none, none, e2 (.iload 6), none, e1 .laload, 
  e1 .lastore, eV (.iinc 6 1) 3 1, none, none, eA (.goto (-32)) 3 150, none, none, e2 (.iload 5), none, e1 .ireturn]
set_option maxRecDepth 100000 in
def cd258 : Cd := [e1 (.iload_n 1), eA (.ifCond .ge 6) 3 7, none, none, some (.ldc 87, 2, 0, 0, -1000000001, 0, [(0, 24)]), none, e1 .ireturn, eV (.iconst (-1)) 1 (-1), e1 (.istore_n 2), e1 (.iconst 0), e1 (.istore_n 3), eV (.iconst 3) 1 3, 
  e2 (.istore 4), none, e2 (.iload 4), none, eA (.ifCond .lt 26) 3 42, none, none, e1 (.aload_n 0), e2 (.iload 4), none, e1 (.iload_n 1), eS (.invokevirtual 336) 254 2 288, none, none, eA (.ifCond .ne 8) 3 34, none, none, 
  e2 (.iload 4), none, eA (.goto 4) 3 35, none, none, e1 (.iload_n 2), e1 (.istore_n 2), eV (.iinc 4 (-1)) 3 (-1), none, none, eA (.goto (-25)) 3 14, none, none, e1 (.iconst 0), e2 (.istore 4), none, e2 (.iload 4), none, 
  eV (.iconst 4) 1 4, eA (.if_icmp .ge 58) 3 106, none, none, e1 (.iload_n 2), eA (.ifCond .lt 54) 3 106, none, none, e1 (.iload_n 3), e1 (.aload_n 0), e2 (.iload 4), none, e1 (.iload_n 1), 
  eS (.invokevirtual 336) 254 2 288, none, none, eA (.ifCond .ne 34) 3 97, none, none, e1 (.aload_n 0), eG (.getfield 25) 11 6 6 89, none, none, eV (.bipush 24) 2 24, none, e2 (.iload 4), none, e1 .imul, e1 (.iload_n 1), 
  e1 .iadd, e1 .laload, e1 (.aload_n 0), eG (.getfield 25) 11 6 6 89, none, none, eV (.bipush 24) 2 24, none, e1 (.iload_n 2), e1 .imul, e1 (.iload_n 1), e1 .iadd, e1 .laload, e1 .lcmp, eA (.ifCond .eq 7) 3 97, none, none, 
  eV (.iconst 1) 1 1, eA (.goto 4) 3 98, none, none, e1 (.iconst 0), e1 .iadd, e1 (.istore_n 3), eV (.iinc 4 1) 3 1, none, none, eA (.goto (-58)) 3 45, none, none, e1 (.iload_n 2), eA (.ifCond .ge 8) 3 115, none, none, 
  some (.ldc 66, 2, 0, 0, -1000000005, 0, [(0, 26)]), none, eA (.goto 4) 3 116, none, none, e1 (.iload_n 3), e1 .ireturn]
set_option maxRecDepth 100000 in
def cd259 : Cd := [e1 (.aload_n 0), eG (.getfield 345) 11 34 34 117, none, none, eV (.bipush 60) 2 60, none, eA (.if_icmp .ne 6) 3 12, none, none, some (.ldc 88, 2, 0, 0, -1000000003, 0, [(0, 25)]), none, e1 .ireturn, e1 (.aload_n 0), 
  eG (.getfield 60) 11 33 33 116, none, none, e1 (.aload_n 0), eG (.getfield 345) 11 34 34 117, none, none, e1 (.iload_n 1), e1 .iastore, e1 (.aload_n 0), e1 .dup, eG (.getfield 345) 11 34 34 117, none, none, 
  eV (.iconst 1) 1 1, e1 .iadd, eG (.putfield 345) 11 34 34 117, none, none, e1 (.aload_n 0), eG (.getfield 345) 11 34 34 117, none, none, e1 .ireturn]
set_option maxRecDepth 100000 in
def cd260 : Cd := [e1 (.iconst 0), e1 (.istore_n 3), e1 (.iload_n 3), eV (.sipush 3400) 3 3400, none, none, eA (.if_icmp .ge 15) 3 21, none, none, e1 (.aload_n 2), e1 (.iload_n 3), e1 (.aload_n 1), e1 (.iload_n 3), e1 .iaload, e1 .iastore, 
  eV (.iinc 3 1) 3 1, none, none, eA (.goto (-16)) 3 2, none, none, e1 .return_]
set_option maxRecDepth 100000 in
def cd261 : Cd := [e1 (.aload_n 0), eG (.getfield 345) 11 34 34 117, none, none, e1 (.istore_n 2), e1 (.aload_n 0), e1 (.iconst 0), eG (.putfield 345) 11 34 34 117, none, none, e1 (.iload_n 1), e1 .i2l, some (.lconst 1, 1, 0, 0, 0, 1, []), 
  some (.ldc2_w 348, 3, 0, 0, 0, 30, [(0, 17)]), none, none, eS (.invokestatic 67) 159 3 194, none, none, eA (.ifCond .ne 6) 3 25, none, none, some (.ldc 87, 2, 0, 0, -1000000001, 0, [(0, 24)]), none, e1 .ireturn, 
  e1 (.aload_n 0), eG (.getfield 350) 11 3 3 86, none, none, eA (.ifCond .ne 6) 3 35, none, none, some (.ldc 134, 2, 0, 0, -1000000002, 0, [(0, 27)]), none, e1 .ireturn, e1 (.aload_n 0), e1 (.aload_n 0), 
  eS (.getfield 7) 11 0 83, none, none, e1 (.aload_n 0), eG (.getfield 16) 11 2 2 85, none, none, eS (.invokevirtual 354) 260 2 295, none, none, e1 (.aload_n 0), e1 (.aload_n 0), eG (.getfield 13) 11 1 1 84, none, none, 
  e1 (.aload_n 0), eS (.getfield 7) 11 0 83, none, none, eS (.invokevirtual 354) 260 2 295, none, none, e1 (.iconst 0), e1 (.istore_n 3), e1 (.iload_n 3), e1 (.iload_n 1), eA (.if_icmp .ge 125) 3 188, none, none, 
  e1 (.aload_n 0), eS (.invokevirtual 322) 247 0 279, none, none, e1 (.aload_n 0), eG (.getfield 63) 11 35 35 118, none, none, eV (.iconst 2) 1 2, e1 (.iload_n 3), e1 .imul, e1 (.iconst 0), e1 .iastore, e1 (.aload_n 0), 
  eG (.getfield 63) 11 35 35 118, none, none, eV (.iconst 2) 1 2, e1 (.iload_n 3), e1 .imul, eV (.iconst 1) 1 1, e1 .iadd, e1 (.iconst 0), e1 .iastore, e1 (.iconst 0), e2 (.istore 4), none, e2 (.iload 4), none, 
  e1 (.aload_n 0), eS (.getfield 7) 11 0 83, none, none, eV (.iconst 2) 1 2, e1 .iaload, eA (.if_icmp .ge 34) 3 135, none, none, e1 (.aload_n 0), eG (.getfield 63) 11 35 35 118, none, none, eV (.iconst 2) 1 2, 
  e1 (.iload_n 3), e1 .imul, e1 .dup2, e1 .iaload, e1 (.aload_n 0), eS (.getfield 7) 11 0 83, none, none, e1 (.aload_n 0), e2 (.iload 4), none, eS (.invokevirtual 71) 164 1 205, none, none, eV (.bipush 10) 2 10, none, 
  e1 .iadd, e1 .iaload, e1 .iadd, e1 .iastore, eV (.iinc 4 1) 3 1, none, none, eA (.goto (-39)) 3 93, none, none, e1 (.iconst 0), e2 (.istore 4), none, e2 (.iload 4), none, e1 (.aload_n 0), eS (.getfield 7) 11 0 83, none, 
  none, eV (.iconst 1) 1 1, e1 .iaload, eA (.if_icmp .ge 36) 3 182, none, none, e1 (.aload_n 0), eG (.getfield 63) 11 35 35 118, none, none, eV (.iconst 2) 1 2, e1 (.iload_n 3), e1 .imul, eV (.iconst 1) 1 1, e1 .iadd, 
  e1 .dup2, e1 .iaload, e1 (.aload_n 0), eS (.getfield 7) 11 0 83, none, none, e1 (.aload_n 0), e2 (.iload 4), none, eS (.invokevirtual 89) 163 1 195, none, none, eV (.bipush 6) 2 6, none, e1 .iadd, e1 .iaload, e1 .iadd, 
  e1 .iastore, eV (.iinc 4 1) 3 1, none, none, eA (.goto (-41)) 3 138, none, none, eV (.iinc 3 1) 3 1, none, none, eA (.goto (-124)) 3 61, none, none, e1 (.aload_n 0), e1 (.aload_n 0), eG (.getfield 16) 11 2 2 85, none, 
  none, e1 (.aload_n 0), eS (.getfield 7) 11 0 83, none, none, eS (.invokevirtual 354) 260 2 295, none, none, e1 (.iconst 0), e1 (.istore_n 3), e1 (.iload_n 3), e1 (.iload_n 2), eA (.if_icmp .ge 31) 3 235, none, none, 
  e1 (.iload_n 3), eV (.iconst 2) 1 2, e1 (.iload_n 1), e1 .imul, eA (.if_icmp .ge 24) 3 235, none, none, e1 (.aload_n 0), eG (.getfield 60) 11 33 33 116, none, none, e1 (.iload_n 3), e1 .iaload, e1 (.aload_n 0), 
  eG (.getfield 63) 11 35 35 118, none, none, e1 (.iload_n 3), e1 .iaload, eA (.if_icmp .ne 9) 3 235, none, none, eV (.iinc 3 1) 3 1, none, none, eA (.goto (-30)) 3 202, none, none, e1 (.iload_n 3), e1 (.iload_n 2), 
  eA (.if_icmp .ne 14) 3 251, none, none, e1 (.iload_n 3), eV (.iconst 2) 1 2, e1 (.iload_n 1), e1 .imul, eA (.if_icmp .ne 7) 3 251, none, none, e1 (.iconst 0), eA (.goto 6) 3 254, none, none, eV (.iconst 1) 1 1, 
  e1 (.iload_n 3), e1 .iadd, e1 .ireturn]
set_option maxRecDepth 100000 in
def cd262 : Cd := [e1 (.aload_n 0), eV (.iconst 1) 1 1, eG (.putfield 350) 11 3 3 86, none, none, e1 (.aload_n 0), e1 (.aload_n 0), eS (.getfield 7) 11 0 83, none, none, e1 (.aload_n 0), eG (.getfield 13) 11 1 1 84, none, none, 
  eS (.invokevirtual 354) 260 2 295, none, none, e1 (.aload_n 0), eS (.getfield 7) 11 0 83, none, none, e1 (.iconst 0), e1 .iaload, e1 .ireturn]
set_option maxRecDepth 100000 in
def cd263 : Cd := [e1 (.aload_n 0), eG (.getfield 350) 11 3 3 86, none, none, eA (.ifCond .ne 6) 3 10, none, none, some (.ldc 134, 2, 0, 0, -1000000002, 0, [(0, 27)]), none, e1 .ireturn, e1 (.aload_n 0), e1 (.aload_n 0), 
  eG (.getfield 13) 11 1 1 84, none, none, e1 (.aload_n 0), eS (.getfield 7) 11 0 83, none, none, eS (.invokevirtual 354) 260 2 295, none, none, e1 (.aload_n 0), eS (.getfield 7) 11 0 83, none, none, e1 (.iconst 0), 
  e1 .iaload, e1 .ireturn]
set_option maxRecDepth 100000 in
def cd264 : Cd := [e1 (.iconst 0), e1 (.istore_n 2), e1 (.iload_n 1), 
  some (.tableswitch 284 0 13 #[69, 76, 83, 83, 148, 155, 213, 220, 227, 232, 237, 244, 252, 252], 69, 287, 0, 0, 0, [(0, 72), (1, 79), (2, 86), (3, 86), (4, 151), (5, 158), (6, 216), (7, 223), (8, 230), (9, 235), (10, 240), (11, 247), (12, 255), (13, 255)]), 
  none, none, none, none, none, none, none, none, none, none, none, none, none, none, none, none, none, none, none, none, none, none, none, none, none, none, none, none, none, none, none, none, none, none, none, none, none, 
  none, none, none, none, none, none, none, none, none, none, none, none, none, none, none, none, none, none, none, none, none, none, none, none, none, none, none, none, none, none, none, e1 (.aload_n 0), 
  eS (.getfield 7) 11 0 83, none, none, eV (.iconst 1) 1 1, e1 .iaload, e1 .ireturn, e1 (.aload_n 0), eS (.getfield 7) 11 0 83, none, none, eV (.iconst 2) 1 2, e1 .iaload, e1 .ireturn, e1 (.iconst 0), e1 (.istore_n 3), 
  e1 (.iload_n 3), e1 (.aload_n 0), eS (.getfield 7) 11 0 83, none, none, eV (.iconst 2) 1 2, e1 .iaload, eA (.if_icmp .ge 54) 3 149, none, none, e1 (.iload_n 2), e1 (.iload_n 1), eV (.iconst 2) 1 2, 
  eA (.if_icmp .ne 19) 3 120, none, none, e1 (.aload_n 0), eS (.getfield 7) 11 0 83, none, none, e1 (.aload_n 0), e1 (.iload_n 3), eS (.invokevirtual 71) 164 1 205, none, none, eV (.bipush 11) 2 11, none, e1 .iadd, 
  e1 .iaload, eA (.goto 24) 3 141, none, none, e1 (.aload_n 0), eS (.getfield 7) 11 0 83, none, none, e1 (.aload_n 0), e1 (.iload_n 3), eS (.invokevirtual 71) 164 1 205, none, none, eV (.bipush 8) 2 8, none, e1 .iadd, 
  e1 .iaload, eA (.ifCond .lt 7) 3 140, none, none, eV (.iconst 1) 1 1, eA (.goto 4) 3 141, none, none, e1 (.iconst 0), e1 .iadd, e1 (.istore_n 2), eV (.iinc 3 1) 3 1, none, none, eA (.goto (-58)) 3 88, none, none, 
  e1 (.iload_n 2), e1 .ireturn, e1 (.aload_n 0), eS (.getfield 7) 11 0 83, none, none, eV (.iconst 3) 1 3, e1 .iaload, e1 .ireturn, e1 (.iconst 0), e1 (.istore_n 3), e1 (.iload_n 3), e1 (.aload_n 0), 
  eS (.getfield 7) 11 0 83, none, none, eV (.iconst 3) 1 3, e1 .iaload, eA (.if_icmp .ge 47) 3 214, none, none, e1 (.iload_n 2), e1 (.aload_n 0), eS (.getfield 7) 11 0 83, none, none, e1 (.aload_n 0), e1 (.iload_n 3), 
  eS (.invokevirtual 75) 165 1 203, none, none, e1 .iaload, eV (.iconst 5) 1 5, eA (.if_icmp .ne 23) 3 205, none, none, e1 (.aload_n 0), eS (.getfield 7) 11 0 83, none, none, e1 (.aload_n 0), e1 (.iload_n 3), 
  eS (.invokevirtual 75) 165 1 203, none, none, eV (.bipush 6) 2 6, none, e1 .iadd, e1 .iaload, eA (.ifCond .ge 7) 3 205, none, none, eV (.iconst 1) 1 1, eA (.goto 4) 3 206, none, none, e1 (.iconst 0), e1 .iadd, 
  e1 (.istore_n 2), eV (.iinc 3 1) 3 1, none, none, eA (.goto (-51)) 3 160, none, none, e1 (.iload_n 2), e1 .ireturn, e1 (.aload_n 0), eS (.getfield 7) 11 0 83, none, none, eV (.iconst 4) 1 4, e1 .iaload, e1 .ireturn, 
  e1 (.aload_n 0), eS (.getfield 7) 11 0 83, none, none, eV (.iconst 5) 1 5, e1 .iaload, e1 .ireturn, e1 (.aload_n 0), eG (.getfield 345) 11 34 34 117, none, none, e1 .ireturn, e1 (.aload_n 0), 
  eG (.getfield 169) 11 16 16 99, none, none, e1 .ireturn, e1 (.aload_n 0), eS (.getfield 7) 11 0 83, none, none, e1 (.iconst 0), e1 .iaload, e1 .ireturn, e1 (.aload_n 0), eS (.getfield 7) 11 0 83, none, none, 
  eV (.bipush 6) 2 6, none, e1 .iaload, e1 .ireturn, e1 (.iconst 0), e1 (.istore_n 3), e1 (.iload_n 3), e1 (.aload_n 0), eS (.getfield 7) 11 0 83, none, none, eV (.iconst 1) 1 1, e1 .iaload, eA (.if_icmp .ge 21) 3 285, 
  none, none, e1 (.iload_n 2), e1 (.aload_n 0), e1 (.iload_n 3), e1 (.iload_n 1), eV (.bipush 11) 2 11, none, e1 .isub, eS (.invokevirtual 106) 179 2 201, none, none, e1 .iadd, e1 (.istore_n 2), eV (.iinc 3 1) 3 1, none, 
  none, eA (.goto (-25)) 3 257, none, none, e1 (.iload_n 2), e1 .ireturn, some (.ldc 87, 2, 0, 0, -1000000001, 0, [(0, 24)]), none, e1 .ireturn]
set_option maxRecDepth 100000 in
def cd265 : Cd := [e1 (.iload_n 0), e1 (.iload_n 0), eV (.iconst 1) 1 1, e1 .iushr, eG (.ldc_w 265) 0 0 1431655765 3, none, none, e1 .iand, e1 .isub, e1 (.istore_n 0), e1 (.iload_n 0), eG (.ldc_w 266) 0 0 858993459 4, none, none, e1 .iand, 
  e1 (.iload_n 0), eV (.iconst 2) 1 2, e1 .iushr, eG (.ldc_w 266) 0 0 858993459 4, none, none, e1 .iand, e1 .iadd, e1 (.istore_n 0), e1 (.iload_n 0), e1 (.iload_n 0), eV (.iconst 4) 1 4, e1 .iushr, e1 .iadd, 
  eG (.ldc_w 267) 0 0 252645135 5, none, none, e1 .iand, e1 (.istore_n 0), e1 (.iload_n 0), e1 (.iload_n 0), eV (.bipush 8) 2 8, none, e1 .iushr, e1 .iadd, e1 (.istore_n 0), e1 (.iload_n 0), e1 (.iload_n 0), 
  eV (.bipush 16) 2 16, none, e1 .iushr, e1 .iadd, e1 (.istore_n 0), e1 (.iload_n 0), eV (.bipush 63) 2 63, none, e1 .iand, e1 .ireturn]
def psN : List String := [RX0, RX1, RX2, RX3, RX4, RX5, RX6, RX7, RX8, RX9, RX10, RX11, RJ6, "PrisonShopsLaw"]
abbrev Mp : Type := Nat × Nat × (Nat × Nat) × (Nat × Nat) × (Nat × Nat) × (Nat × Nat)
abbrev Mi : Type := MethodName × ByteArray × Nat × Option FieldType × Nat × Cd × Mp
def mi0 : Mi := (⟨RX0, "pass", "(LPrisonShops$State;)V"⟩, prog_2_method_2_code, 3, none, 0, cd0, (1, 1, (5, 24), (5, 22), (5, 23), (1, 7)))
def mi1 : Mi := (⟨RX0, "work", "(LPrisonShops$State;I)V"⟩, prog_2_method_3_code, 7, none, 0, cd1, (1, 2, (5, 29), (5, 28), (0, 29), (1, 7)))
def mi2 : Mi := (⟨RX0, "learn", "(LPrisonShops$State;I)V"⟩, prog_2_method_4_code, 4, none, 0, cd2, (1, 2, (5, 42), (5, 41), (0, 30), (1, 7)))
def mi3 : Mi := (⟨RX0, "finishOrders", "(LPrisonShops$State;I)V"⟩, prog_2_method_5_code, 6, none, 0, cd3, (1, 2, (5, 48), (5, 47), (0, 31), (1, 7)))
def mi4 : Mi := (⟨RX0, "openGate", "(LPrisonShops$State;I)V"⟩, prog_2_method_6_code, 3, none, 0, cd4, (1, 2, (5, 55), (5, 54), (0, 32), (1, 7)))
def mi5 : Mi := (⟨RX1, "placed", "()I"⟩, prog_3_method_2_code, 1, some .int, 1, cd5, (1, 0, (3, 28), (3, 26), (3, 27), (1, 9)))
def mi6 : Mi := (⟨RX1, "turns", "()I"⟩, prog_3_method_3_code, 1, some .int, 1, cd6, (1, 0, (3, 32), (3, 30), (3, 31), (1, 9)))
def mi7 : Mi := (⟨RX1, "shopOf", "(I)I"⟩, prog_3_method_4_code, 2, some .int, 1, cd7, (1, 1, (3, 36), (3, 34), (3, 35), (1, 9)))
def mi8 : Mi := (⟨RX1, "find", "(LPrisonShops$State;)V"⟩, prog_3_method_5_code, 3, none, 1, cd8, (1, 1, (2, 223), (2, 221), (2, 222), (1, 9)))
def mi9 : Mi := (⟨RX1, "choicesOf", "(LPrisonShops$State;I)I"⟩, prog_3_method_6_code, 4, some .int, 1, cd9, (0, 2, (2, 231), (2, 230), (0, 0), (1, 9)))
def mi10 : Mi := (⟨RX1, "sumLeastTurns", "()V"⟩, prog_3_method_7_code, 5, none, 1, cd10, (1, 0, (2, 236), (2, 235), (0, 1), (1, 9)))
def mi11 : Mi := (⟨RX1, "sortIn", "(II)V"⟩, prog_3_method_8_code, 4, none, 1, cd11, (1, 2, (3, 0), (2, 239), (0, 2), (1, 9)))
def mi12 : Mi := (⟨RX1, "place", "(III)V"⟩, prog_3_method_9_code, 5, none, 1, cd12, (1, 3, (3, 4), (3, 3), (0, 3), (1, 9)))
def mi13 : Mi := (⟨RX1, "placeIn", "(IIII)V"⟩, prog_3_method_10_code, 5, none, 1, cd13, (1, 4, (3, 15), (3, 14), (0, 5), (1, 9)))
def mi14 : Mi := (⟨RX1, "leaveOut", "(III)V"⟩, prog_3_method_11_code, 4, none, 1, cd14, (1, 3, (3, 23), (3, 22), (0, 7), (1, 9)))
def mi15 : Mi := (⟨RX1, "fits", "(II)Z"⟩, prog_3_method_12_code, 3, some .boolean, 1, cd15, (1, 2, (3, 19), (3, 18), (0, 6), (1, 9)))
def mi16 : Mi := (⟨RX1, "canBeBetter", "(III)Z"⟩, prog_3_method_13_code, 6, some .boolean, 1, cd16, (1, 3, (3, 8), (3, 7), (0, 4), (1, 9)))
def mi17 : Mi := (⟨RX2, "firstDayAllDone", "(LPrisonShops$State;I)I"⟩, prog_4_method_2_code, 7, some .int, 2, cd17, (1, 2, (3, 115), (3, 113), (3, 114), (1, 8)))
def mi18 : Mi := (⟨RX2, "listOrders", "(LPrisonShops$State;I)V"⟩, prog_4_method_3_code, 4, none, 2, cd18, (1, 2, (3, 119), (3, 118), (0, 8), (1, 8)))
def mi19 : Mi := (⟨RX2, "listWorkers", "(LPrisonShops$State;I)V"⟩, prog_4_method_4_code, 4, none, 2, cd19, (1, 2, (3, 137), (3, 136), (0, 10), (1, 8)))
def mi20 : Mi := (⟨RX2, "madeOn", "(II)I"⟩, prog_4_method_5_code, 5, some .int, 2, cd20, (1, 2, (3, 142), (3, 141), (0, 11), (1, 8)))
def mi21 : Mi := (⟨RX3, "size", "()I"⟩, prog_5_method_2_code, 1, some .int, 3, cd21, (1, 0, (4, 156), (4, 154), (4, 155), (1, 6)))
def mi22 : Mi := (⟨RX3, "clear", "()V"⟩, prog_5_method_3_code, 1, none, 3, cd22, (1, 0, (3, 185), (3, 183), (3, 184), (1, 6)))
def mi23 : Mi := (⟨RX3, "push", "(I)V"⟩, prog_5_method_4_code, 2, none, 3, cd23, (1, 1, (4, 47), (4, 45), (4, 46), (1, 6)))
def mi24 : Mi := (⟨RX3, "at", "(I)I"⟩, prog_5_method_5_code, 2, some .int, 3, cd24, (1, 1, (4, 160), (4, 158), (4, 159), (1, 6)))
def mi25 : Mi := (⟨RX3, "top", "()I"⟩, prog_5_method_6_code, 1, some .int, 3, cd25, (1, 0, (4, 55), (4, 53), (4, 54), (1, 6)))
def mi26 : Mi := (⟨RX3, "pop", "()I"⟩, prog_5_method_7_code, 1, some .int, 3, cd26, (1, 0, (4, 59), (4, 57), (4, 58), (1, 6)))
def mi27 : Mi := (⟨RX4, "readAll", "()I"⟩, prog_6_method_2_code, 3, some .int, 4, cd27, (1, 0, (3, 177), (3, 175), (3, 176), (1, 11)))
def mi28 : Mi := (⟨RX4, "writeTo", "(LPrisonShops$Table;I)V"⟩, prog_6_method_3_code, 4, none, 4, cd28, (1, 2, (4, 151), (4, 149), (4, 150), (1, 11)))
def mi29 : Mi := (⟨RX4, "startAnew", "()V"⟩, prog_6_method_4_code, 1, none, 4, cd29, (1, 0, (3, 181), (3, 180), (0, 12), (1, 11)))
def mi30 : Mi := (⟨RX4, "goOn", "()V"⟩, prog_6_method_5_code, 4, none, 4, cd30, (1, 0, (3, 189), (3, 188), (0, 13), (1, 11)))
def mi31 : Mi := (⟨RX4, "skipLetters", "()V"⟩, prog_6_method_6_code, 1, none, 4, cd31, (1, 0, (3, 201), (3, 200), (0, 14), (1, 11)))
def mi32 : Mi := (⟨RX4, "readDigits", "()V"⟩, prog_6_method_7_code, 1, none, 4, cd32, (1, 0, (3, 208), (3, 207), (0, 15), (1, 11)))
def mi33 : Mi := (⟨RX4, "isLetter", "(I)Z"⟩, prog_6_method_8_code, 1, some .boolean, 4, cd33, (0, 1, (3, 197), (3, 196), (0, 0), (1, 11)))
def mi34 : Mi := (⟨RX4, "isDigit", "(I)Z"⟩, prog_6_method_9_code, 1, some .boolean, 4, cd34, (0, 1, (3, 204), (3, 203), (0, 0), (1, 11)))
def mi35 : Mi := (⟨RX4, "keyHere", "()I"⟩, prog_6_method_10_code, 2, some .int, 4, cd35, (1, 0, (3, 213), (3, 212), (0, 16), (1, 11)))
def mi36 : Mi := (⟨RX4, "isSpelt", "(Ljava/lang/String;)Z"⟩, prog_6_method_11_code, 3, some .boolean, 4, cd36, (1, 1, (3, 226), (3, 225), (0, 17), (1, 11)))
def mi37 : Mi := (⟨RX4, "wordOf", "(I)Ljava/lang/String;"⟩, prog_6_method_12_code, 1, some (.object "java/lang/String"), 4, cd37, (0, 1, (3, 216), (3, 215), (0, 0), (1, 11)))
def mi38 : Mi := (⟨RX4, "namesOf", "(I)Ljava/lang/String;"⟩, prog_6_method_13_code, 1, some (.object "java/lang/String"), 4, cd38, (0, 1, (4, 66), (4, 65), (0, 0), (1, 11)))
def mi39 : Mi := (⟨RX4, "readPart", "()Z"⟩, prog_6_method_14_code, 1, some .boolean, 4, cd39, (1, 0, (4, 39), (4, 38), (0, 18), (1, 11)))
def mi40 : Mi := (⟨RX4, "takeName", "()Z"⟩, prog_6_method_15_code, 2, some .boolean, 4, cd40, (1, 0, (4, 63), (4, 62), (0, 21), (1, 11)))
def mi41 : Mi := (⟨RX4, "takePart", "(I)Z"⟩, prog_6_method_16_code, 2, some .boolean, 4, cd41, (1, 1, (4, 43), (4, 42), (0, 19), (1, 11)))
def mi42 : Mi := (⟨RX4, "takeOpening", "()Z"⟩, prog_6_method_17_code, 1, some .boolean, 4, cd42, (1, 0, (4, 131), (4, 130), (0, 22), (1, 11)))
def mi43 : Mi := (⟨RX4, "readSign", "()Z"⟩, prog_6_method_18_code, 2, some .boolean, 4, cd43, (1, 0, (4, 135), (4, 134), (0, 23), (1, 11)))
def mi44 : Mi := (⟨RX4, "takeClosing", "()Z"⟩, prog_6_method_19_code, 1, some .boolean, 4, cd44, (1, 0, (4, 139), (4, 138), (0, 24), (1, 11)))
def mi45 : Mi := (⟨RX4, "endPart", "()V"⟩, prog_6_method_20_code, 1, none, 4, cd45, (1, 0, (4, 51), (4, 50), (0, 20), (1, 11)))
def mi46 : Mi := (⟨RX4, "settle", "(I)V"⟩, prog_6_method_21_code, 3, none, 4, cd46, (1, 1, (4, 143), (4, 142), (0, 25), (1, 11)))
def mi47 : Mi := (⟨RX4, "bindsOf", "(I)I"⟩, prog_6_method_22_code, 1, some .int, 4, cd47, (0, 1, (4, 146), (4, 145), (0, 0), (1, 11)))
def mi48 : Mi := (⟨RX5, "give", "(LPrisonShops$State;IIII)I"⟩, prog_7_method_2_code, 7, some .int, 5, cd48, (1, 5, (4, 181), (4, 179), (4, 180), (1, 5)))
def mi49 : Mi := (⟨RX5, "workOut", "(LPrisonShops$Table;IIII)I"⟩, prog_7_method_3_code, 11, some .int, 5, cd49, (1, 5, (4, 187), (4, 186), (0, 26), (1, 5)))
def mi50 : Mi := (⟨RX5, "join", "(III)I"⟩, prog_7_method_4_code, 3, some .int, 5, cd50, (0, 3, (4, 197), (4, 196), (0, 0), (1, 5)))
def mi51 : Mi := (⟨RX5, "isTrue", "(Z)I"⟩, prog_7_method_5_code, 1, some .int, 5, cd51, (0, 1, (4, 194), (4, 193), (0, 0), (1, 5)))
def mi52 : Mi := (⟨RX5, "share", "(LPrisonShops$State;II)I"⟩, prog_7_method_6_code, 10, some .int, 5, cd52, (1, 3, (4, 207), (4, 205), (4, 206), (1, 5)))
def mi53 : Mi := (⟨RX6, "become", "(III)I"⟩, prog_8_method_2_code, 5, some .int, 6, cd53, (1, 3, (5, 83), (5, 81), (5, 82), (1, 12)))
def mi54 : Mi := (⟨RX6, "change", "(IIII)I"⟩, prog_8_method_3_code, 6, some .int, 6, cd54, (1, 4, (5, 97), (5, 95), (5, 96), (1, 12)))
def mi55 : Mi := (⟨RX6, "carry", "(IIIII)I"⟩, prog_8_method_4_code, 6, some .int, 6, cd55, (1, 5, (5, 118), (5, 116), (5, 117), (1, 12)))
def mi56 : Mi := (⟨RX6, "oddAt", "(I)I"⟩, prog_8_method_5_code, 5, some .int, 6, cd56, (1, 1, (5, 132), (5, 130), (5, 131), (1, 12)))
def mi57 : Mi := (⟨RX6, "isSheet", "(I)Z"⟩, prog_8_method_6_code, 1, some .boolean, 6, cd57, (0, 1, (5, 86), (5, 85), (0, 0), (1, 12)))
def mi58 : Mi := (⟨RX6, "hasPlace", "(II)Z"⟩, prog_8_method_7_code, 3, some .boolean, 6, cd58, (1, 2, (5, 102), (5, 101), (0, 33), (1, 12)))
def mi59 : Mi := (⟨RX6, "hasRow", "(III)Z"⟩, prog_8_method_8_code, 4, some .boolean, 6, cd59, (1, 3, (5, 123), (5, 122), (0, 34), (1, 12)))
def mi60 : Mi := (⟨RX6, "narrowed", "(IJ)J"⟩, prog_8_method_9_code, 3, some .long, 6, cd60, (0, 2, (5, 106), (5, 105), (0, 0), (1, 12)))
def mi61 : Mi := (⟨RX7, "becomeAs", "(LPrisonShops$State;)V"⟩, prog_9_method_2_code, 2, none, 7, cd61, (1, 1, (5, 145), (5, 143), (5, 144), (1, 2)))
def mi62 : Mi := (⟨RX7, "isFree", "(I)Z"⟩, prog_9_method_3_code, 2, some .boolean, 7, cd62, (1, 1, (2, 191), (2, 189), (2, 190), (1, 2)))
def mi63 : Mi := (⟨RX7, "handsNotFree", "()I"⟩, prog_9_method_4_code, 3, some .int, 7, cd63, (1, 0, (5, 70), (5, 68), (5, 69), (1, 2)))
def mi64 : Mi := (⟨RX7, "isBarred", "(II)Z"⟩, prog_9_method_5_code, 3, some .boolean, 7, cd64, (1, 2, (2, 174), (2, 172), (2, 173), (1, 2)))
def mi65 : Mi := (⟨RX7, "setBarred", "(IIZ)V"⟩, prog_9_method_6_code, 6, none, 7, cd65, (1, 3, (2, 178), (2, 176), (2, 177), (1, 2)))
def mi66 : Mi := (⟨RX7, "mayWork", "(II)Z"⟩, prog_9_method_7_code, 3, some .boolean, 7, cd66, (1, 2, (2, 187), (2, 185), (2, 186), (1, 2)))
def mi67 : Mi := (⟨RX7, "membersOf", "(I)I"⟩, prog_9_method_8_code, 4, some .int, 7, cd67, (1, 1, (2, 126), (2, 124), (2, 125), (1, 2)))
def mi68 : Mi := (⟨RX7, "hasRoomFor", "(II)Z"⟩, prog_9_method_9_code, 4, some .boolean, 7, cd68, (1, 2, (2, 199), (2, 197), (2, 198), (1, 2)))
def mi69 : Mi := (⟨RX7, "move", "(II)V"⟩, prog_9_method_10_code, 3, none, 7, cd69, (1, 2, (2, 206), (2, 204), (2, 205), (1, 2)))
def mi70 : Mi := (⟨RX7, "takeBack", "(II)V"⟩, prog_9_method_11_code, 4, none, 7, cd70, (1, 2, (2, 210), (2, 208), (2, 209), (1, 2)))
def mi71 : Mi := (⟨RX7, "isOutTo", "(II)Z"⟩, prog_9_method_12_code, 3, some .boolean, 7, cd71, (1, 2, (2, 214), (2, 212), (2, 213), (1, 2)))
def mi72 : Mi := (⟨RX7, "countOutTo", "(I)I"⟩, prog_9_method_13_code, 4, some .int, 7, cd72, (1, 1, (3, 83), (3, 81), (3, 82), (1, 2)))
def mi73 : Mi := (⟨RX7, "countInShops", "()I"⟩, prog_9_method_14_code, 3, some .int, 7, cd73, (1, 0, (5, 178), (5, 176), (5, 177), (1, 2)))
def mi74 : Mi := (⟨RX7, "isOfKind", "(II)Z"⟩, prog_9_method_15_code, 5, some .boolean, 7, cd74, (1, 2, (2, 147), (2, 145), (2, 146), (1, 2)))
def mi75 : Mi := (⟨RX7, "isToolOf", "(II)Z"⟩, prog_9_method_16_code, 3, some .boolean, 7, cd75, (1, 2, (3, 95), (3, 93), (3, 94), (1, 2)))
def mi76 : Mi := (⟨RX7, "countTools", "(II)I"⟩, prog_9_method_17_code, 6, some .int, 7, cd76, (1, 2, (2, 142), (2, 140), (2, 141), (1, 2)))
def mi77 : Mi := (⟨RX7, "mayHave", "(II)Z"⟩, prog_9_method_18_code, 4, some .boolean, 7, cd77, (1, 2, (3, 79), (3, 77), (3, 78), (1, 2)))
def mi78 : Mi := (⟨RX7, "agreesAtBell", "(IZ)Z"⟩, prog_9_method_19_code, 5, some .boolean, 7, cd78, (1, 2, (3, 99), (3, 97), (3, 98), (1, 2)))
def mi79 : Mi := (⟨RX7, "isOpenOrder", "(I)Z"⟩, prog_9_method_20_code, 2, some .boolean, 7, cd79, (1, 1, (3, 128), (3, 126), (3, 127), (1, 2)))
def mi80 : Mi := (⟨RX7, "countOpenOrders", "()I"⟩, prog_9_method_21_code, 3, some .int, 7, cd80, (1, 0, (5, 182), (5, 180), (5, 181), (1, 2)))
def mi81 : Mi := (⟨RX7, "nextOrder", "(II)I"⟩, prog_9_method_22_code, 5, some .int, 7, cd81, (1, 2, (3, 124), (3, 122), (3, 123), (1, 2)))
def mi82 : Mi := (⟨RX7, "comesAhead", "(II)Z"⟩, prog_9_method_23_code, 5, some .boolean, 7, cd82, (1, 2, (3, 132), (3, 131), (0, 9), (1, 2)))
def mi83 : Mi := (⟨RX7, "textInForce", "(I)I"⟩, prog_9_method_24_code, 5, some .int, 7, cd83, (1, 1, (4, 173), (4, 171), (4, 172), (1, 2)))
def mi84 : Mi := (⟨RX7, "addPence", "(III)V"⟩, prog_9_method_25_code, 4, none, 7, cd84, (1, 3, (4, 212), (4, 210), (4, 211), (1, 2)))
def mi85 : Mi := (⟨RX7, "addEvent", "(II)I"⟩, prog_9_method_26_code, 4, some .int, 7, cd85, (1, 2, (4, 231), (4, 229), (4, 230), (1, 2)))
def mi86 : Mi := (⟨RX7, "endAsKnown", "(II)I"⟩, prog_9_method_27_code, 5, some .int, 7, cd86, (1, 2, (5, 12), (5, 10), (5, 11), (1, 2)))
def mi87 : Mi := (⟨RX7, "countsOn", "(II)Z"⟩, prog_9_method_28_code, 4, some .boolean, 7, cd87, (1, 2, (5, 16), (5, 15), (0, 28), (1, 2)))
def mi88 : Mi := (⟨RX7, "draw", "(I)I"⟩, prog_9_method_29_code, 6, some .int, 7, cd88, (1, 1, (5, 74), (5, 72), (5, 73), (1, 2)))
def mi89 : Mi := (⟨RX7, "sumOfEarned", "()I"⟩, prog_9_method_30_code, 3, some .int, 7, cd89, (1, 0, (5, 154), (5, 152), (5, 153), (1, 2)))
def mi90 : Mi := (⟨RX7, "sumOfMade", "()I"⟩, prog_9_method_31_code, 3, some .int, 7, cd90, (1, 0, (5, 162), (5, 160), (5, 161), (1, 2)))
def mi91 : Mi := (⟨RX8, "rows", "()I"⟩, prog_10_method_2_code, 1, some .int, 8, cd91, (1, 0, (2, 130), (2, 128), (2, 129), (1, 3)))
def mi92 : Mi := (⟨RX8, "isFull", "()Z"⟩, prog_10_method_3_code, 1, some .boolean, 8, cd92, (1, 0, (2, 87), (2, 85), (2, 86), (1, 3)))
def mi93 : Mi := (⟨RX8, "holds", "(I)Z"⟩, prog_10_method_4_code, 2, some .boolean, 8, cd93, (1, 1, (2, 105), (2, 103), (2, 104), (1, 3)))
def mi94 : Mi := (⟨RX8, "get", "(II)I"⟩, prog_10_method_5_code, 3, some .int, 8, cd94, (1, 2, (2, 113), (2, 111), (2, 112), (1, 3)))
def mi95 : Mi := (⟨RX8, "set", "(III)V"⟩, prog_10_method_6_code, 4, none, 8, cd95, (1, 3, (2, 97), (2, 95), (2, 96), (1, 3)))
def mi96 : Mi := (⟨RX8, "swap", "(III)I"⟩, prog_10_method_7_code, 5, some .int, 8, cd96, (1, 3, (2, 109), (2, 107), (2, 108), (1, 3)))
def mi97 : Mi := (⟨RX8, "raise", "(III)V"⟩, prog_10_method_8_code, 4, none, 8, cd97, (1, 3, (5, 38), (5, 36), (5, 37), (1, 3)))
def mi98 : Mi := (⟨RX8, "add", "()I"⟩, prog_10_method_9_code, 1, some .int, 8, cd98, (1, 0, (2, 92), (2, 90), (2, 91), (1, 3)))
def mi99 : Mi := (⟨RX8, "becomeAs", "(LPrisonShops$Table;)V"⟩, prog_10_method_10_code, 2, none, 8, cd99, (1, 1, (5, 149), (5, 147), (5, 148), (1, 3)))
def mi100 : Mi := (⟨RX9, "size", "()I"⟩, prog_11_method_2_code, 1, some .int, 9, cd100, (1, 0, (3, 159), (3, 157), (3, 158), (1, 10)))
def mi101 : Mi := (⟨RX9, "hasRoom", "()Z"⟩, prog_11_method_3_code, 1, some .boolean, 9, cd101, (1, 0, (3, 151), (3, 149), (3, 150), (1, 10)))
def mi102 : Mi := (⟨RX9, "add", "(I)V"⟩, prog_11_method_4_code, 3, none, 9, cd102, (1, 1, (3, 155), (3, 153), (3, 154), (1, 10)))
def mi103 : Mi := (⟨RX9, "cutTo", "(I)V"⟩, prog_11_method_5_code, 2, none, 9, cd103, (1, 1, (3, 167), (3, 165), (3, 166), (1, 10)))
def mi104 : Mi := (⟨RX9, "at", "(I)I"⟩, prog_11_method_6_code, 2, some .int, 9, cd104, (1, 1, (3, 194), (3, 192), (3, 193), (1, 10)))
def mi105 : Mi := (⟨RX10, "shop", "(III)I"⟩, prog_1_method_2_code, 5, some .int, 10, cd105, (1, 3, (2, 79), (2, 77), (2, 78), (1, 1)))
def mi106 : Mi := (⟨RX10, "rate", "(II)I"⟩, prog_1_method_3_code, 3, some .int, 10, cd106, (1, 2, (2, 101), (2, 99), (2, 100), (1, 1)))
def mi107 : Mi := (⟨RX10, "lock", "(II)I"⟩, prog_1_method_4_code, 3, some .int, 10, cd107, (1, 2, (2, 118), (2, 116), (2, 117), (1, 1)))
def mi108 : Mi := (⟨RX10, "has", "(II)I"⟩, prog_1_method_5_code, 3, some .int, 10, cd108, (1, 2, (2, 122), (2, 120), (2, 121), (1, 1)))
def mi109 : Mi := (⟨RX10, "hand", "(III)I"⟩, prog_1_method_6_code, 5, some .int, 10, cd109, (1, 3, (2, 154), (2, 152), (2, 153), (1, 1)))
def mi110 : Mi := (⟨RX10, "is", "(II)I"⟩, prog_1_method_7_code, 3, some .int, 10, cd110, (1, 2, (2, 158), (2, 156), (2, 157), (1, 1)))
def mi111 : Mi := (⟨RX10, "be", "(III)I"⟩, prog_1_method_8_code, 4, some .int, 10, cd111, (1, 3, (2, 162), (2, 160), (2, 161), (1, 1)))
def mi112 : Mi := (⟨RX10, "canBecome", "(II)Z"⟩, prog_1_method_9_code, 3, some .boolean, 10, cd112, (1, 2, (2, 166), (2, 165), (0, 0), (1, 1)))
def mi113 : Mi := (⟨RX10, "bar", "(III)I"⟩, prog_1_method_10_code, 5, some .int, 10, cd113, (1, 3, (2, 170), (2, 168), (2, 169), (1, 1)))
def mi114 : Mi := (⟨RX10, "may", "(II)I"⟩, prog_1_method_11_code, 3, some .int, 10, cd114, (1, 2, (2, 183), (2, 181), (2, 182), (1, 1)))
def mi115 : Mi := (⟨RX10, "put", "(II)I"⟩, prog_1_method_12_code, 4, some .int, 10, cd115, (1, 2, (2, 195), (2, 193), (2, 194), (1, 1)))
def mi116 : Mi := (⟨RX10, "filling", "(I)I"⟩, prog_1_method_13_code, 2, some .int, 10, cd116, (1, 1, (2, 218), (2, 216), (2, 217), (1, 1)))
def mi117 : Mi := (⟨RX10, "fill", "()I"⟩, prog_1_method_14_code, 3, some .int, 10, cd117, (1, 0, (3, 40), (3, 38), (3, 39), (1, 1)))
def mi118 : Mi := (⟨RX10, "never", "()I"⟩, prog_1_method_15_code, 3, some .int, 10, cd118, (1, 0, (3, 45), (3, 43), (3, 44), (1, 1)))
def mi119 : Mi := (⟨RX10, "thing", "(IIII)I"⟩, prog_1_method_16_code, 6, some .int, 10, cd119, (1, 4, (3, 49), (3, 47), (3, 48), (1, 1)))
def mi120 : Mi := (⟨RX10, "told", "(II)I"⟩, prog_1_method_17_code, 3, some .int, 10, cd120, (1, 2, (3, 65), (3, 63), (3, 64), (1, 1)))
def mi121 : Mi := (⟨RX10, "as", "(II)I"⟩, prog_1_method_18_code, 3, some .int, 10, cd121, (1, 2, (3, 69), (3, 67), (3, 68), (1, 1)))
def mi122 : Mi := (⟨RX10, "out", "(II)I"⟩, prog_1_method_19_code, 3, some .int, 10, cd122, (1, 2, (3, 75), (3, 73), (3, 74), (1, 1)))
def mi123 : Mi := (⟨RX10, "hang", "(I)I"⟩, prog_1_method_20_code, 2, some .int, 10, cd123, (1, 1, (3, 87), (3, 85), (3, 86), (1, 1)))
def mi124 : Mi := (⟨RX10, "bell", "(II)I"⟩, prog_1_method_21_code, 6, some .int, 10, cd124, (1, 2, (3, 91), (3, 89), (3, 90), (1, 1)))
def mi125 : Mi := (⟨RX10, "who", "(I)I"⟩, prog_1_method_22_code, 4, some .int, 10, cd125, (1, 1, (3, 103), (3, 101), (3, 102), (1, 1)))
def mi126 : Mi := (⟨RX10, "late", "(I)I"⟩, prog_1_method_23_code, 3, some .int, 10, cd126, (1, 1, (3, 107), (3, 105), (3, 106), (1, 1)))
def mi127 : Mi := (⟨RX10, "foretold", "(I)I"⟩, prog_1_method_24_code, 2, some .int, 10, cd127, (1, 1, (3, 111), (3, 109), (3, 110), (1, 1)))
def mi128 : Mi := (⟨RX10, "feed", "(III)I"⟩, prog_1_method_25_code, 4, some .int, 10, cd128, (1, 3, (3, 147), (3, 145), (3, 146), (1, 1)))
def mi129 : Mi := (⟨RX10, "trim", "(I)I"⟩, prog_1_method_26_code, 2, some .int, 10, cd129, (1, 1, (3, 163), (3, 161), (3, 162), (1, 1)))
def mi130 : Mi := (⟨RX10, "text", "(I)I"⟩, prog_1_method_27_code, 4, some .int, 10, cd130, (1, 1, (3, 173), (3, 171), (3, 172), (1, 1)))
def mi131 : Mi := (⟨RX10, "of", "(II)I"⟩, prog_1_method_28_code, 3, some .int, 10, cd131, (1, 2, (4, 165), (4, 163), (4, 164), (1, 1)))
def mi132 : Mi := (⟨RX10, "why", "(I)I"⟩, prog_1_method_29_code, 2, some .int, 10, cd132, (1, 1, (4, 169), (4, 167), (4, 168), (1, 1)))
def mi133 : Mi := (⟨RX10, "rules", "(IIII)I"⟩, prog_1_method_30_code, 5, some .int, 10, cd133, (1, 4, (4, 177), (4, 175), (4, 176), (1, 1)))
def mi134 : Mi := (⟨RX10, "pay", "(I)I"⟩, prog_1_method_31_code, 5, some .int, 10, cd134, (1, 1, (4, 203), (4, 201), (4, 202), (1, 1)))
def mi135 : Mi := (⟨RX10, "takes", "(II)I"⟩, prog_1_method_32_code, 3, some .int, 10, cd135, (1, 2, (4, 218), (4, 216), (4, 217), (1, 1)))
def mi136 : Mi := (⟨RX10, "earn", "(I)I"⟩, prog_1_method_33_code, 7, some .int, 10, cd136, (1, 1, (4, 222), (4, 220), (4, 221), (1, 1)))
def mi137 : Mi := (⟨RX10, "lose", "(II)I"⟩, prog_1_method_34_code, 4, some .int, 10, cd137, (1, 2, (4, 236), (4, 234), (4, 235), (1, 1)))
def mi138 : Mi := (⟨RX10, "refusalOfEvent", "(I)I"⟩, prog_1_method_35_code, 2, some .int, 10, cd138, (1, 1, (4, 226), (4, 225), (0, 27), (1, 1)))
def mi139 : Mi := (⟨RX10, "appeal", "(I)I"⟩, prog_1_method_36_code, 2, some .int, 10, cd139, (1, 1, (5, 0), (4, 238), (4, 239), (1, 1)))
def mi140 : Mi := (⟨RX10, "event", "(II)I"⟩, prog_1_method_37_code, 3, some .int, 10, cd140, (1, 2, (5, 4), (5, 2), (5, 3), (1, 1)))
def mi141 : Mi := (⟨RX10, "end", "(II)I"⟩, prog_1_method_38_code, 3, some .int, 10, cd141, (1, 2, (5, 8), (5, 6), (5, 7), (1, 1)))
def mi142 : Mi := (⟨RX10, "run", "(I)I"⟩, prog_1_method_39_code, 3, some .int, 10, cd142, (1, 1, (5, 20), (5, 18), (5, 19), (1, 1)))
def mi143 : Mi := (⟨RX10, "seed", "(I)I"⟩, prog_1_method_40_code, 3, some .int, 10, cd143, (1, 1, (5, 61), (5, 59), (5, 60), (1, 1)))
def mi144 : Mi := (⟨RX10, "search", "(I)I"⟩, prog_1_method_41_code, 5, some .int, 10, cd144, (1, 1, (5, 66), (5, 64), (5, 65), (1, 1)))
def mi145 : Mi := (⟨RX10, "sheet", "(III)I"⟩, prog_1_method_42_code, 4, some .int, 10, cd145, (1, 3, (5, 79), (5, 77), (5, 78), (1, 1)))
def mi146 : Mi := (⟨RX10, "mark", "(III)I"⟩, prog_1_method_43_code, 4, some .int, 10, cd146, (1, 3, (5, 93), (5, 91), (5, 92), (1, 1)))
def mi147 : Mi := (⟨RX10, "grow", "(III)I"⟩, prog_1_method_44_code, 4, some .int, 10, cd147, (1, 3, (5, 110), (5, 108), (5, 109), (1, 1)))
def mi148 : Mi := (⟨RX10, "copy", "(IIIII)I"⟩, prog_1_method_45_code, 6, some .int, 10, cd148, (1, 5, (5, 114), (5, 112), (5, 113), (1, 1)))
def mi149 : Mi := (⟨RX10, "odd", "(I)I"⟩, prog_1_method_46_code, 2, some .int, 10, cd149, (1, 1, (5, 128), (5, 126), (5, 127), (1, 1)))
def mi150 : Mi := (⟨RX10, "tell", "(I)I"⟩, prog_1_method_47_code, 2, some .int, 10, cd150, (1, 1, (5, 137), (5, 135), (5, 136), (1, 1)))
def mi151 : Mi := (⟨RX10, "check", "(I)I"⟩, prog_1_method_48_code, 4, some .int, 10, cd151, (1, 1, (5, 141), (5, 139), (5, 140), (1, 1)))
def mi152 : Mi := (⟨RX10, "wasTold", "(III)Z"⟩, prog_1_method_49_code, 4, some .boolean, 10, cd152, (1, 3, (5, 158), (5, 157), (0, 35), (1, 1)))
def mi153 : Mi := (⟨RX10, "keep", "()I"⟩, prog_1_method_50_code, 1, some .int, 10, cd153, (1, 0, (5, 166), (5, 164), (5, 165), (1, 1)))
def mi154 : Mi := (⟨RX10, "back", "()I"⟩, prog_1_method_51_code, 1, some .int, 10, cd154, (1, 0, (5, 170), (5, 168), (5, 169), (1, 1)))
def mi155 : Mi := (⟨RX10, "count", "(I)I"⟩, prog_1_method_52_code, 2, some .int, 10, cd155, (1, 1, (5, 174), (5, 172), (5, 173), (1, 1)))
def mi156 : Mi := (⟨RX10, "isWithin", "(III)Z"⟩, prog_1_method_53_code, 3, some .boolean, 10, cd156, (0, 3, (2, 82), (2, 81), (0, 0), (1, 1)))
def mi157 : Mi := (⟨RX10, "isKind", "(I)Z"⟩, prog_1_method_54_code, 1, some .boolean, 10, cd157, (0, 1, (3, 52), (3, 51), (0, 0), (1, 1)))
def mi158 : Mi := (⟨RX10, "fitsKind", "(III)Z"⟩, prog_1_method_55_code, 3, some .boolean, 10, cd158, (0, 3, (3, 55), (3, 54), (0, 0), (1, 1)))
def mi159 : Mi := (⟨RX11, "isIn", "(JJJ)Z"⟩, prog_13_method_2_code, 6, some .boolean, 11, cd159, (0, 3, (6, 66), (6, 65), (0, 0), (1, 13)))
def mi160 : Mi := (⟨RX11, "orNone", "(I)I"⟩, prog_13_method_3_code, 1, some .int, 11, cd160, (0, 1, (6, 132), (6, 131), (0, 0), (1, 13)))
def mi161 : Mi := (⟨RX11, "least", "(II)I"⟩, prog_13_method_4_code, 2, some .int, 11, cd161, (0, 2, (7, 118), (7, 117), (0, 0), (1, 13)))
def mi162 : Mi := (⟨RX11, "becomes", "(II)I"⟩, prog_13_method_5_code, 4, some .int, 11, cd162, (1, 2, (6, 86), (6, 85), (0, 38), (1, 13)))
def mi163 : Mi := (⟨RX11, "shopAt", "(I)I"⟩, prog_13_method_6_code, 2, some .int, 11, cd163, (1, 1, (6, 73), (6, 72), (0, 36), (1, 13)))
def mi164 : Mi := (⟨RX11, "handAt", "(I)I"⟩, prog_13_method_7_code, 2, some .int, 11, cd164, (1, 1, (6, 115), (6, 114), (0, 43), (1, 13)))
def mi165 : Mi := (⟨RX11, "thingAt", "(I)I"⟩, prog_13_method_8_code, 2, some .int, 11, cd165, (1, 1, (6, 107), (6, 106), (0, 41), (1, 13)))
def mi166 : Mi := (⟨RX11, "textAt", "(I)I"⟩, prog_13_method_9_code, 2, some .int, 11, cd166, (1, 1, (7, 20), (7, 19), (0, 55), (1, 13)))
def mi167 : Mi := (⟨RX11, "eventAt", "(I)I"⟩, prog_13_method_10_code, 2, some .int, 11, cd167, (1, 1, (7, 147), (7, 146), (0, 77), (1, 13)))
def mi168 : Mi := (⟨RX11, "isShop", "(I)Z"⟩, prog_13_method_11_code, 2, some .boolean, 11, cd168, (1, 1, (6, 81), (6, 80), (0, 37), (1, 13)))
def mi169 : Mi := (⟨RX11, "isHand", "(I)Z"⟩, prog_13_method_12_code, 2, some .boolean, 11, cd169, (1, 1, (6, 128), (6, 127), (0, 44), (1, 13)))
def mi170 : Mi := (⟨RX11, "isThing", "(I)Z"⟩, prog_13_method_13_code, 2, some .boolean, 11, cd170, (1, 1, (6, 206), (6, 205), (0, 52), (1, 13)))
def mi171 : Mi := (⟨RX11, "isText", "(I)Z"⟩, prog_13_method_14_code, 2, some .boolean, 11, cd171, (1, 1, (7, 91), (7, 90), (0, 70), (1, 13)))
def mi172 : Mi := (⟨RX11, "isFree", "(I)Z"⟩, prog_13_method_15_code, 2, some .boolean, 11, cd172, (1, 1, (6, 154), (6, 153), (0, 46), (1, 13)))
def mi173 : Mi := (⟨RX11, "isTool", "(I)Z"⟩, prog_13_method_16_code, 2, some .boolean, 11, cd173, (1, 1, (6, 103), (6, 102), (0, 40), (1, 13)))
def mi174 : Mi := (⟨RX11, "gets", "(III)V"⟩, prog_13_method_17_code, 4, none, 11, cd174, (1, 3, (7, 130), (7, 129), (0, 75), (1, 13)))
def mi175 : Mi := (⟨RX11, "shop", "(III)I"⟩, prog_13_method_18_code, 6, some .int, 11, cd175, (1, 3, (6, 62), (6, 60), (6, 61), (1, 13)))
def mi176 : Mi := (⟨RX11, "rate", "(II)I"⟩, prog_13_method_19_code, 3, some .int, 11, cd176, (1, 2, (6, 77), (6, 75), (6, 76), (1, 13)))
def mi177 : Mi := (⟨RX11, "lock", "(II)I"⟩, prog_13_method_20_code, 3, some .int, 11, cd177, (1, 2, (6, 90), (6, 88), (6, 89), (1, 13)))
def mi178 : Mi := (⟨RX11, "handsIn", "(I)I"⟩, prog_13_method_21_code, 4, some .int, 11, cd178, (1, 1, (6, 111), (6, 110), (0, 42), (1, 13)))
def mi179 : Mi := (⟨RX11, "tools", "(II)I"⟩, prog_13_method_22_code, 5, some .int, 11, cd179, (1, 2, (6, 99), (6, 98), (0, 39), (1, 13)))
def mi180 : Mi := (⟨RX11, "has", "(II)I"⟩, prog_13_method_23_code, 3, some .int, 11, cd180, (1, 2, (6, 94), (6, 92), (6, 93), (1, 13)))
def mi181 : Mi := (⟨RX11, "hand", "(III)I"⟩, prog_13_method_24_code, 6, some .int, 11, cd181, (1, 3, (6, 119), (6, 117), (6, 118), (1, 13)))
def mi182 : Mi := (⟨RX11, "is", "(II)I"⟩, prog_13_method_25_code, 4, some .int, 11, cd182, (1, 2, (6, 124), (6, 122), (6, 123), (1, 13)))
def mi183 : Mi := (⟨RX11, "be", "(III)I"⟩, prog_13_method_26_code, 5, some .int, 11, cd183, (1, 3, (6, 137), (6, 135), (6, 136), (1, 13)))
def mi184 : Mi := (⟨RX11, "isBarred", "(II)Z"⟩, prog_13_method_27_code, 3, some .boolean, 11, cd184, (1, 2, (6, 162), (6, 161), (0, 47), (1, 13)))
def mi185 : Mi := (⟨RX11, "bar", "(III)I"⟩, prog_13_method_28_code, 4, some .int, 11, cd185, (1, 3, (6, 142), (6, 140), (6, 141), (1, 13)))
def mi186 : Mi := (⟨RX11, "mayWork", "(II)Z"⟩, prog_13_method_29_code, 5, some .boolean, 11, cd186, (1, 2, (6, 150), (6, 149), (0, 45), (1, 13)))
def mi187 : Mi := (⟨RX11, "may", "(II)I"⟩, prog_13_method_30_code, 3, some .int, 11, cd187, (1, 2, (6, 146), (6, 144), (6, 145), (1, 13)))
def mi188 : Mi := (⟨RX11, "goes", "(II)V"⟩, prog_13_method_31_code, 5, none, 11, cd188, (1, 2, (6, 167), (6, 166), (0, 48), (1, 13)))
def mi189 : Mi := (⟨RX11, "put", "(II)I"⟩, prog_13_method_32_code, 8, some .int, 11, cd189, (1, 2, (6, 158), (6, 156), (6, 157), (1, 13)))
def mi190 : Mi := (⟨RX11, "canHave", "(II)Z"⟩, prog_13_method_33_code, 5, some .boolean, 11, cd190, (1, 2, (6, 183), (6, 182), (0, 51), (1, 13)))
def mi191 : Mi := (⟨RX11, "seek", "(III)V"⟩, prog_13_method_34_code, 6, none, 11, cd191, (1, 3, (6, 179), (6, 178), (0, 50), (1, 13)))
def mi192 : Mi := (⟨RX11, "findFilling", "()V"⟩, prog_13_method_35_code, 1, none, 11, cd192, (1, 0, (6, 175), (6, 174), (0, 49), (1, 13)))
def mi193 : Mi := (⟨RX11, "filling", "(I)I"⟩, prog_13_method_36_code, 2, some .int, 11, cd193, (1, 1, (6, 171), (6, 169), (6, 170), (1, 13)))
def mi194 : Mi := (⟨RX11, "fill", "()I"⟩, prog_13_method_37_code, 4, some .int, 11, cd194, (1, 0, (6, 187), (6, 185), (6, 186), (1, 13)))
def mi195 : Mi := (⟨RX11, "never", "()I"⟩, prog_13_method_38_code, 3, some .int, 11, cd195, (1, 0, (6, 191), (6, 189), (6, 190), (1, 13)))
def mi196 : Mi := (⟨RX11, "fits", "(III)Z"⟩, prog_13_method_39_code, 3, some .boolean, 11, cd196, (0, 3, (6, 198), (6, 197), (0, 0), (1, 13)))
def mi197 : Mi := (⟨RX11, "thing", "(IIII)I"⟩, prog_13_method_40_code, 7, some .int, 11, cd197, (1, 4, (6, 195), (6, 193), (6, 194), (1, 13)))
def mi198 : Mi := (⟨RX11, "told", "(II)I"⟩, prog_13_method_41_code, 4, some .int, 11, cd198, (1, 2, (6, 202), (6, 200), (6, 201), (1, 13)))
def mi199 : Mi := (⟨RX11, "as", "(II)I"⟩, prog_13_method_42_code, 5, some .int, 11, cd199, (1, 2, (6, 211), (6, 209), (6, 210), (1, 13)))
def mi200 : Mi := (⟨RX11, "out", "(II)I"⟩, prog_13_method_43_code, 8, some .int, 11, cd200, (1, 2, (6, 216), (6, 214), (6, 215), (1, 13)))
def mi201 : Mi := (⟨RX11, "hang", "(I)I"⟩, prog_13_method_44_code, 3, some .int, 11, cd201, (1, 1, (6, 220), (6, 218), (6, 219), (1, 13)))
def mi202 : Mi := (⟨RX11, "bell", "(II)I"⟩, prog_13_method_45_code, 9, some .int, 11, cd202, (1, 2, (6, 224), (6, 222), (6, 223), (1, 13)))
def mi203 : Mi := (⟨RX11, "who", "(I)I"⟩, prog_13_method_46_code, 5, some .int, 11, cd203, (1, 1, (6, 228), (6, 226), (6, 227), (1, 13)))
def mi204 : Mi := (⟨RX11, "late", "(I)I"⟩, prog_13_method_47_code, 3, some .int, 11, cd204, (1, 1, (6, 232), (6, 230), (6, 231), (1, 13)))
def mi205 : Mi := (⟨RX11, "nextOrder", "(I)I"⟩, prog_13_method_48_code, 6, some .int, 11, cd205, (1, 1, (7, 0), (6, 239), (0, 53), (1, 13)))
def mi206 : Mi := (⟨RX11, "foretold", "(I)I"⟩, prog_13_method_49_code, 6, some .int, 11, cd206, (1, 1, (6, 236), (6, 234), (6, 235), (1, 13)))
def mi207 : Mi := (⟨RX11, "feed", "(III)I"⟩, prog_13_method_50_code, 6, some .int, 11, cd207, (1, 3, (7, 4), (7, 2), (7, 3), (1, 13)))
def mi208 : Mi := (⟨RX11, "trim", "(I)I"⟩, prog_13_method_51_code, 2, some .int, 11, cd208, (1, 1, (7, 8), (7, 6), (7, 7), (1, 13)))
def mi209 : Mi := (⟨RX11, "isLetter", "(I)Z"⟩, prog_13_method_52_code, 2, some .boolean, 11, cd209, (1, 1, (7, 28), (7, 27), (0, 57), (1, 13)))
def mi210 : Mi := (⟨RX11, "isDigit", "(I)Z"⟩, prog_13_method_53_code, 2, some .boolean, 11, cd210, (1, 1, (7, 34), (7, 33), (0, 58), (1, 13)))
def mi211 : Mi := (⟨RX11, "next", "()V"⟩, prog_13_method_54_code, 3, none, 11, cd211, (1, 0, (7, 24), (7, 23), (0, 56), (1, 13)))
def mi212 : Mi := (⟨RX11, "isSign", "(I)Z"⟩, prog_13_method_55_code, 2, some .boolean, 11, cd212, (1, 1, (7, 83), (7, 82), (0, 69), (1, 13)))
def mi213 : Mi := (⟨RX11, "isWordAt", "(IIII)Z"⟩, prog_13_method_56_code, 6, some .boolean, 11, cd213, (1, 4, (7, 44), (7, 43), (0, 60), (1, 13)))
def mi214 : Mi := (⟨RX11, "isLong", "(IIIIII)Z"⟩, prog_13_method_57_code, 8, some .boolean, 11, cd214, (1, 6, (7, 48), (7, 47), (0, 61), (1, 13)))
def mi215 : Mi := (⟨RX11, "key", "()I"⟩, prog_13_method_58_code, 2, some .int, 11, cd215, (1, 0, (7, 40), (7, 39), (0, 59), (1, 13)))
def mi216 : Mi := (⟨RX11, "isName", "(II)Z"⟩, prog_13_method_59_code, 2, some .boolean, 11, cd216, (0, 2, (7, 79), (7, 78), (0, 0), (1, 13)))
def mi217 : Mi := (⟨RX11, "step", "(II)V"⟩, prog_13_method_60_code, 3, none, 11, cd217, (1, 2, (7, 76), (7, 75), (0, 68), (1, 13)))
def mi218 : Mi := (⟨RX11, "either", "(I)Z"⟩, prog_13_method_61_code, 2, some .boolean, 11, cd218, (1, 1, (7, 52), (7, 51), (0, 62), (1, 13)))
def mi219 : Mi := (⟨RX11, "both", "(I)Z"⟩, prog_13_method_62_code, 2, some .boolean, 11, cd219, (1, 1, (7, 56), (7, 55), (0, 63), (1, 13)))
def mi220 : Mi := (⟨RX11, "test", "(I)Z"⟩, prog_13_method_63_code, 3, some .boolean, 11, cd220, (1, 1, (7, 60), (7, 59), (0, 64), (1, 13)))
def mi221 : Mi := (⟨RX11, "sum", "(I)Z"⟩, prog_13_method_64_code, 3, some .boolean, 11, cd221, (1, 1, (7, 64), (7, 63), (0, 65), (1, 13)))
def mi222 : Mi := (⟨RX11, "term", "(I)Z"⟩, prog_13_method_65_code, 3, some .boolean, 11, cd222, (1, 1, (7, 68), (7, 67), (0, 66), (1, 13)))
def mi223 : Mi := (⟨RX11, "part0", "(I)Z"⟩, prog_13_method_66_code, 2, some .boolean, 11, cd223, (1, 1, (7, 72), (7, 71), (0, 67), (1, 13)))
def mi224 : Mi := (⟨RX11, "parse", "()I"⟩, prog_13_method_67_code, 3, some .int, 11, cd224, (1, 0, (7, 16), (7, 15), (0, 54), (1, 13)))
def mi225 : Mi := (⟨RX11, "text", "(I)I"⟩, prog_13_method_68_code, 5, some .int, 11, cd225, (1, 1, (7, 12), (7, 10), (7, 11), (1, 13)))
def mi226 : Mi := (⟨RX11, "of", "(II)I"⟩, prog_13_method_69_code, 3, some .int, 11, cd226, (1, 2, (7, 87), (7, 85), (7, 86), (1, 13)))
def mi227 : Mi := (⟨RX11, "counts", "(I)I"⟩, prog_13_method_70_code, 5, some .int, 11, cd227, (1, 1, (7, 100), (7, 99), (0, 71), (1, 13)))
def mi228 : Mi := (⟨RX11, "why", "(I)I"⟩, prog_13_method_71_code, 2, some .int, 11, cd228, (1, 1, (7, 96), (7, 94), (7, 95), (1, 13)))
def mi229 : Mi := (⟨RX11, "joined", "(III)I"⟩, prog_13_method_72_code, 3, some .int, 11, cd229, (0, 3, (7, 115), (7, 114), (0, 0), (1, 13)))
def mi230 : Mi := (⟨RX11, "worked", "(I)I"⟩, prog_13_method_73_code, 6, some .int, 11, cd230, (1, 1, (7, 112), (7, 111), (0, 73), (1, 13)))
def mi231 : Mi := (⟨RX11, "ruleOf", "(IIII)I"⟩, prog_13_method_74_code, 7, some .int, 11, cd231, (1, 4, (7, 108), (7, 107), (0, 72), (1, 13)))
def mi232 : Mi := (⟨RX11, "rules", "(IIII)I"⟩, prog_13_method_75_code, 5, some .int, 11, cd232, (1, 4, (7, 104), (7, 102), (7, 103), (1, 13)))
def mi233 : Mi := (⟨RX11, "reckon", "(I)V"⟩, prog_13_method_76_code, 5, none, 11, cd233, (1, 1, (7, 126), (7, 125), (0, 74), (1, 13)))
def mi234 : Mi := (⟨RX11, "pay", "(I)I"⟩, prog_13_method_77_code, 2, some .int, 11, cd234, (1, 1, (7, 122), (7, 120), (7, 121), (1, 13)))
def mi235 : Mi := (⟨RX11, "takes", "(II)I"⟩, prog_13_method_78_code, 3, some .int, 11, cd235, (1, 2, (7, 135), (7, 133), (7, 134), (1, 13)))
def mi236 : Mi := (⟨RX11, "newEvent", "(II)I"⟩, prog_13_method_79_code, 4, some .int, 11, cd236, (1, 2, (7, 143), (7, 142), (0, 76), (1, 13)))
def mi237 : Mi := (⟨RX11, "earn", "(I)I"⟩, prog_13_method_80_code, 5, some .int, 11, cd237, (1, 1, (7, 139), (7, 137), (7, 138), (1, 13)))
def mi238 : Mi := (⟨RX11, "lose", "(II)I"⟩, prog_13_method_81_code, 3, some .int, 11, cd238, (1, 2, (7, 151), (7, 149), (7, 150), (1, 13)))
def mi239 : Mi := (⟨RX11, "isEvent", "(I)Z"⟩, prog_13_method_82_code, 2, some .boolean, 11, cd239, (1, 1, (7, 159), (7, 158), (0, 78), (1, 13)))
def mi240 : Mi := (⟨RX11, "appeal", "(I)I"⟩, prog_13_method_83_code, 3, some .int, 11, cd240, (1, 1, (7, 155), (7, 153), (7, 154), (1, 13)))
def mi241 : Mi := (⟨RX11, "event", "(II)I"⟩, prog_13_method_84_code, 4, some .int, 11, cd241, (1, 2, (7, 163), (7, 161), (7, 162), (1, 13)))
def mi242 : Mi := (⟨RX11, "endOf", "(II)I"⟩, prog_13_method_85_code, 7, some .int, 11, cd242, (1, 2, (7, 171), (7, 170), (0, 79), (1, 13)))
def mi243 : Mi := (⟨RX11, "end", "(II)I"⟩, prog_13_method_86_code, 3, some .int, 11, cd243, (1, 2, (7, 167), (7, 165), (7, 166), (1, 13)))
def mi244 : Mi := (⟨RX11, "works", "(I)V"⟩, prog_13_method_87_code, 5, none, 11, cd244, (1, 1, (7, 184), (7, 183), (0, 81), (1, 13)))
def mi245 : Mi := (⟨RX11, "delivers", "(I)V"⟩, prog_13_method_88_code, 3, none, 11, cd245, (1, 1, (7, 188), (7, 187), (0, 82), (1, 13)))
def mi246 : Mi := (⟨RX11, "leaves", "(I)V"⟩, prog_13_method_89_code, 5, none, 11, cd246, (1, 1, (7, 192), (7, 191), (0, 83), (1, 13)))
def mi247 : Mi := (⟨RX11, "oneDay", "()V"⟩, prog_13_method_90_code, 2, none, 11, cd247, (1, 0, (7, 180), (7, 179), (0, 80), (1, 13)))
def mi248 : Mi := (⟨RX11, "run", "(I)I"⟩, prog_13_method_91_code, 3, some .int, 11, cd248, (1, 1, (7, 175), (7, 173), (7, 174), (1, 13)))
def mi249 : Mi := (⟨RX11, "seed", "(I)I"⟩, prog_13_method_92_code, 2, some .int, 11, cd249, (1, 1, (7, 196), (7, 194), (7, 195), (1, 13)))
def mi250 : Mi := (⟨RX11, "search", "(I)I"⟩, prog_13_method_93_code, 8, some .int, 11, cd250, (1, 1, (7, 201), (7, 199), (7, 200), (1, 13)))
def mi251 : Mi := (⟨RX11, "isSheet", "(I)Z"⟩, prog_13_method_94_code, 1, some .boolean, 11, cd251, (0, 1, (7, 209), (7, 208), (0, 0), (1, 13)))
def mi252 : Mi := (⟨RX11, "narrow", "(IJ)J"⟩, prog_13_method_95_code, 3, some .long, 11, cd252, (0, 2, (7, 224), (7, 223), (0, 0), (1, 13)))
def mi253 : Mi := (⟨RX11, "sheet", "(III)I"⟩, prog_13_method_96_code, 5, some .int, 11, cd253, (1, 3, (7, 206), (7, 204), (7, 205), (1, 13)))
def mi254 : Mi := (⟨RX11, "lacks", "(II)I"⟩, prog_13_method_97_code, 3, some .int, 11, cd254, (1, 2, (7, 219), (7, 218), (0, 84), (1, 13)))
def mi255 : Mi := (⟨RX11, "mark", "(III)I"⟩, prog_13_method_98_code, 5, some .int, 11, cd255, (1, 3, (7, 215), (7, 213), (7, 214), (1, 13)))
def mi256 : Mi := (⟨RX11, "grow", "(III)I"⟩, prog_13_method_99_code, 5, some .int, 11, cd256, (1, 3, (7, 228), (7, 226), (7, 227), (1, 13)))
def mi257 : Mi := (⟨RX11, "copy", "(IIIII)I"⟩, prog_13_method_100_code, 7, some .int, 11, cd257, (1, 5, (7, 233), (7, 231), (7, 232), (1, 13)))
def mi258 : Mi := (⟨RX11, "odd", "(I)I"⟩, prog_13_method_101_code, 5, some .int, 11, cd258, (1, 1, (7, 237), (7, 235), (7, 236), (1, 13)))
def mi259 : Mi := (⟨RX11, "tell", "(I)I"⟩, prog_13_method_102_code, 2, some .int, 11, cd259, (1, 1, (8, 1), (7, 239), (8, 0), (1, 13)))
def mi260 : Mi := (⟨RX11, "setAside", "([I[I)V"⟩, prog_13_method_103_code, 4, none, 11, cd260, (1, 2, (8, 10), (8, 9), (0, 85), (1, 13)))
def mi261 : Mi := (⟨RX11, "check", "(I)I"⟩, prog_13_method_104_code, 5, some .int, 11, cd261, (1, 1, (8, 5), (8, 3), (8, 4), (1, 13)))
def mi262 : Mi := (⟨RX11, "keep", "()I"⟩, prog_13_method_105_code, 1, some .int, 11, cd262, (1, 0, (8, 14), (8, 12), (8, 13), (1, 13)))
def mi263 : Mi := (⟨RX11, "back", "()I"⟩, prog_13_method_106_code, 1, some .int, 11, cd263, (1, 0, (8, 18), (8, 16), (8, 17), (1, 13)))
def mi264 : Mi := (⟨RX11, "count", "(I)I"⟩, prog_13_method_107_code, 4, some .int, 11, cd264, (1, 1, (8, 22), (8, 20), (8, 21), (1, 13)))
def mi265 : Mi := (⟨RJ6, "bitCount", "(I)I"⟩, prog_15_method_49_code, 1, some .int, 12, cd265, (0, 1, (2, 134), (2, 133), (0, 0), (1, 14)))
def psM0 : List Mi := [mi0, mi1, mi2, mi3, mi4, mi5, mi6, mi7, mi8, mi9, mi10, mi11, mi12, mi13, mi14, mi15, mi16, mi17, mi18, mi19, mi20, mi21, mi22, mi23, mi24, mi25, mi26, mi27, mi28, mi29, mi30, mi31]
def psM1 : List Mi := [mi32, mi33, mi34, mi35, mi36, mi37, mi38, mi39, mi40, mi41, mi42, mi43, mi44, mi45, mi46, mi47, mi48, mi49, mi50, mi51, mi52, mi53, mi54, mi55, mi56, mi57, mi58, mi59, mi60, mi61, mi62, mi63]
def psM2 : List Mi := [mi64, mi65, mi66, mi67, mi68, mi69, mi70, mi71, mi72, mi73, mi74, mi75, mi76, mi77, mi78, mi79, mi80, mi81, mi82, mi83, mi84, mi85, mi86, mi87, mi88, mi89, mi90, mi91, mi92, mi93, mi94, mi95]
def psM3 : List Mi := [mi96, mi97, mi98, mi99, mi100, mi101, mi102, mi103, mi104, mi105, mi106, mi107, mi108, mi109, mi110, mi111, mi112, mi113, mi114, mi115, mi116, mi117, mi118, mi119, mi120, mi121, mi122, mi123, mi124, mi125, mi126, mi127]
def psM4 : List Mi := [mi128, mi129, mi130, mi131, mi132, mi133, mi134, mi135, mi136, mi137, mi138, mi139, mi140, mi141, mi142, mi143, mi144, mi145, mi146, mi147, mi148, mi149, mi150, mi151, mi152, mi153, mi154, mi155, mi156, mi157, mi158, mi159]
def psM5 : List Mi := [mi160, mi161, mi162, mi163, mi164, mi165, mi166, mi167, mi168, mi169, mi170, mi171, mi172, mi173, mi174, mi175, mi176, mi177, mi178, mi179, mi180, mi181, mi182, mi183, mi184, mi185, mi186, mi187, mi188, mi189, mi190, mi191]
def psM6 : List Mi := [mi192, mi193, mi194, mi195, mi196, mi197, mi198, mi199, mi200, mi201, mi202, mi203, mi204, mi205, mi206, mi207, mi208, mi209, mi210, mi211, mi212, mi213, mi214, mi215, mi216, mi217, mi218, mi219, mi220, mi221, mi222, mi223]
def psM7 : List Mi := [mi224, mi225, mi226, mi227, mi228, mi229, mi230, mi231, mi232, mi233, mi234, mi235, mi236, mi237, mi238, mi239, mi240, mi241, mi242, mi243, mi244, mi245, mi246, mi247, mi248, mi249, mi250, mi251, mi252, mi253, mi254, mi255]
def psM8 : List Mi := [mi256, mi257, mi258, mi259, mi260, mi261, mi262, mi263, mi264, mi265]
def psM : List Mi := psM0 ++ (psM1 ++ (psM2 ++ (psM3 ++ (psM4 ++ (psM5 ++ (psM6 ++ (psM7 ++ (psM8))))))))
set_option maxRecDepth 100000 in
def flT : List (Nat × Nat × Nat × Nat × Nat × Nat) := [(8, 24, 8, 0, (1, 44)), (8, 27, 8, 1, (1, 45)), (8, 9, 8, 2, (1, 46)), (8, 21, 8, 3, (1, 47)), (7, 14, 7, 0, (1, 58)), (2, 35, 7, 0, (1, 59)), (0, 31, 7, 0, (1, 60)), (10, 92, 7, 0, (1, 61)), (1, 70, 7, 0, (1, 62)), (7, 20, 7, 1, (1, 63)), (0, 15, 7, 1, (1, 64)), (2, 60, 7, 1, (1, 65)), (1, 53, 7, 1, (1, 66)), (5, 66, 7, 1, (1, 67)), (10, 136, 7, 1, (1, 68)), (7, 23, 7, 2, (1, 69)), (2, 57, 7, 2, (1, 70)), (0, 86, 7, 2, (1, 71)), (10, 189, 7, 2, (1, 72)), (7, 26, 7, 3, (1, 73)), (5, 25, 7, 3, (1, 74)), (10, 228, 7, 3, (1, 75)), (7, 29, 7, 4, (1, 76)), (10, 260, 7, 4, (1, 77)), (7, 32, 7, 5, (1, 78)), (0, 54, 7, 5, (1, 79)), (2, 50, 7, 5, (1, 80)), (5, 69, 7, 5, (1, 81)), (10, 143, 7, 5, (1, 82)), (7, 36, 7, 6, (1, 83)), (10, 270, 7, 6, (1, 84)), (3, 9, 3, 0, (1, 112)), (3, 15, 3, 1, (1, 113)), (5, 12, 5, 0, (1, 119)), (0, 9, 0, 0, (1, 129)), (2, 9, 2, 0, (1, 139)), (2, 15, 2, 1, (1, 140)), (2, 18, 2, 2, (1, 141)), (2, 21, 2, 3, (1, 142)), (2, 25, 2, 4, (1, 143)), (1, 9, 1, 0, (1, 161)), (1, 15, 1, 1, (1, 162)), (1, 18, 1, 2, (1, 163)), (1, 21, 1, 3, (1, 164)), (1, 24, 1, 4, (1, 165)), (1, 27, 1, 5, (1, 166)), (1, 30, 1, 6, (1, 167)), (1, 33, 1, 7, (1, 168)), (1, 36, 1, 8, (1, 169)), (1, 39, 1, 9, (1, 170)), (1, 42, 1, 10, (1, 171)), (1, 46, 1, 11, (1, 172)), (1, 49, 1, 12, (1, 173)), (9, 9, 9, 0, (1, 207)), (9, 15, 9, 1, (1, 208)), (4, 50, 4, 0, (1, 222)), (4, 12, 4, 1, (1, 223)), (4, 18, 4, 2, (1, 224)), (4, 21, 4, 3, (1, 225)), (4, 25, 4, 4, (1, 226)), (4, 28, 4, 5, (1, 227)), (4, 31, 4, 6, (1, 228)), (4, 34, 4, 7, (1, 229)), (4, 37, 4, 8, (1, 230)), (4, 40, 4, 9, (1, 231)), (4, 44, 4, 10, (1, 232)), (4, 47, 4, 11, (1, 233)), (6, 11, 6, 0, (2, 25)), (6, 15, 6, 1, (2, 26)), (6, 18, 6, 2, (2, 27)), (10, 12, 10, 0, (2, 36)), (10, 16, 10, 1, (2, 37)), (10, 19, 10, 2, (2, 38)), (10, 25, 10, 3, (2, 39)), (10, 34, 10, 4, (2, 40)), (10, 41, 10, 5, (2, 41)), (10, 48, 10, 6, (2, 42)), (10, 55, 10, 7, (2, 43)), (10, 64, 10, 8, (2, 44)), (10, 71, 10, 9, (2, 45)), (10, 75, 10, 10, (2, 46)), (10, 79, 10, 11, (2, 47)), (10, 83, 10, 12, (2, 48)), (11, 7, 11, 0, (5, 189)), (11, 13, 11, 1, (5, 190)), (11, 16, 11, 2, (5, 191)), (11, 350, 11, 3, (5, 192)), (11, 19, 11, 4, (5, 193)), (11, 22, 11, 5, (5, 194)), (11, 25, 11, 6, (5, 195)), (11, 29, 11, 7, (5, 196)), (11, 32, 11, 8, (5, 197)), (11, 35, 11, 9, (5, 198)), (11, 139, 11, 10, (5, 199)), (11, 143, 11, 11, (5, 200)), (11, 38, 11, 12, (5, 201)), (11, 42, 11, 13, (5, 202)), (11, 45, 11, 14, (5, 203)), (11, 48, 11, 15, (5, 204)), (11, 169, 11, 16, (5, 205)), (11, 186, 11, 17, (5, 206)), (11, 180, 11, 18, (5, 207)), (11, 183, 11, 19, (5, 208)), (11, 198, 11, 20, (5, 209)), (11, 192, 11, 21, (5, 210)), (11, 248, 11, 22, (5, 211)), (11, 245, 11, 23, (5, 212)), (11, 212, 11, 24, (5, 213)), (11, 209, 11, 25, (5, 214)), (11, 239, 11, 26, (5, 215)), (11, 51, 11, 27, (5, 216)), (11, 54, 11, 28, (5, 217)), (11, 283, 11, 29, (5, 218)), (11, 286, 11, 30, (5, 219)), (11, 289, 11, 31, (5, 220)), (11, 57, 11, 32, (5, 221)), (11, 60, 11, 33, (5, 222)), (11, 345, 11, 34, (5, 223)), (11, 63, 11, 35, (5, 224))]
set_option maxRecDepth 100000 in
def csT : List (Nat × Nat × Int × Nat × Nat) := [(10, 91, -1000000001, (2, 83)), (10, 102, -1000000003, (2, 88)), (8, 38, -1000000005, (2, 93)), (12, 265, 1431655765, (2, 135)), (12, 266, 858993459, (2, 136)), (12, 267, 252645135, (2, 137)), (10, 128, -1000000005, (2, 138)), (7, 75, -1000000005, (2, 143)), (10, 159, -1000000002, (2, 202)), (1, 52, -1000000005, (3, 24)), (10, 195, -1000000012, (3, 71)), (2, 53, -1000000005, (3, 120)), (4, 64, -1000000005, (4, 35)), (5, 24, -1000000005, (4, 183)), (7, 89, 99999, (4, 213)), (0, 64, -1000000005, (5, 31)), (10, 269, 65535, (5, 62)), (7, 101, 65536, (5, 75)), (6, 30, -1000000001, (5, 88)), (6, 31, -1000000014, (5, 89)), (6, 32, -1000000011, (5, 98)), (6, 37, -1000000013, (5, 103)), (6, 42, -1000000012, (5, 119)), (6, 52, -1000000005, (5, 133)), (11, 87, -1000000001, (6, 68)), (11, 88, -1000000003, (6, 69)), (11, 66, -1000000005, (6, 133)), (11, 134, -1000000002, (6, 163)), (11, 165, -1000000012, (6, 212)), (11, 80, 99999, (7, 131)), (11, 327, 65536, (7, 202)), (11, 333, -1000000014, (7, 211)), (11, 334, -1000000011, (7, 220)), (11, 335, -1000000013, (7, 221))]
set_option maxRecDepth 100000 in
def clT : List (Nat × Nat × Int × Nat × Nat) := [(11, 85, 5, (6, 63)), (11, 78, 3, (6, 67)), (11, 96, 99, (6, 82)), (11, 104, 10, (6, 95)), (11, 112, 999, (6, 120)), (11, 117, 11, (6, 129)), (11, 122, 9999, (6, 138)), (11, 163, 6, (6, 207)), (11, 172, 97, (7, 29)), (11, 174, 122, (7, 30)), (11, 176, 48, (7, 35)), (11, 178, 57, (7, 36)), (11, 267, 2, (7, 92)), (11, 320, 60, (7, 176)), (11, 325, 65535, (7, 197)), (11, 331, -1, (7, 210)), (11, 343, 1000, (7, 229)), (11, 348, 30, (8, 6))]
set_option maxRecDepth 100000 in
def mlT : List (Nat × Nat × Nat × Nat × Nat) := [(13, 13, 105, (2, 76)), (10, 87, 156, (2, 80)), (10, 96, 92, (2, 84)), (10, 103, 98, (2, 89)), (10, 107, 95, (2, 94)), (13, 18, 106, (2, 98)), (10, 111, 93, (2, 102)), (10, 115, 96, (2, 106)), (8, 31, 94, (2, 110)), (8, 34, 95, (2, 114)), (13, 23, 107, (2, 115)), (13, 27, 108, (2, 119)), (10, 119, 67, (2, 123)), (7, 47, 91, (2, 127)), (7, 43, 94, (2, 131)), (10, 123, 265, (2, 132)), (10, 129, 76, (2, 139)), (7, 80, 74, (2, 144)), (10, 133, 94, (2, 150)), (13, 31, 109, (2, 151)), (13, 35, 110, (2, 155)), (13, 39, 111, (2, 159)), (10, 139, 112, (2, 163)), (13, 43, 113, (2, 167)), (10, 146, 64, (2, 171)), (10, 149, 65, (2, 175)), (7, 55, 95, (2, 179)), (13, 47, 114, (2, 180)), (10, 153, 66, (2, 184)), (7, 51, 62, (2, 188)), (13, 51, 115, (2, 192)), (10, 156, 68, (2, 196)), (7, 59, 67, (2, 200)), (7, 63, 265, (2, 201)), (10, 160, 69, (2, 203)), (7, 68, 70, (2, 207)), (7, 71, 71, (2, 211)), (13, 55, 116, (2, 215)), (10, 164, 91, (2, 219)), (10, 167, 8, (2, 220)), (1, 58, 91, (2, 224)), (1, 73, 94, (2, 228)), (1, 76, 9, (2, 229)), (1, 87, 66, (2, 232)), (1, 80, 10, (2, 233)), (1, 91, 11, (2, 237)), (1, 83, 12, (3, 1)), (1, 95, 16, (3, 5)), (1, 105, 13, (3, 12)), (1, 112, 15, (3, 16)), (1, 109, 14, (3, 20)), (10, 171, 5, (3, 25)), (10, 174, 6, (3, 29)), (10, 177, 7, (3, 33)), (13, 60, 117, (3, 37)), (10, 180, 62, (3, 41)), (13, 65, 118, (3, 42)), (13, 69, 119, (3, 46)), (10, 183, 157, (3, 50)), (10, 186, 158, (3, 53)), (13, 74, 120, (3, 62)), (13, 78, 121, (3, 66)), (10, 192, 74, (3, 70)), (13, 82, 122, (3, 72)), (10, 196, 77, (3, 76)), (10, 199, 72, (3, 80)), (13, 86, 123, (3, 84)), (13, 90, 124, (3, 88)), (10, 202, 75, (3, 92)), (10, 205, 78, (3, 96)), (13, 94, 125, (3, 100)), (13, 98, 126, (3, 104)), (13, 102, 127, (3, 108)), (10, 209, 17, (3, 112)), (2, 28, 18, (3, 116)), (2, 54, 81, (3, 121)), (7, 83, 79, (3, 125)), (7, 86, 82, (3, 129)), (2, 41, 94, (3, 133)), (2, 32, 19, (3, 134)), (2, 63, 91, (3, 138)), (2, 47, 20, (3, 139)), (13, 106, 128, (3, 144)), (10, 213, 101, (3, 148)), (10, 216, 102, (3, 152)), (10, 219, 100, (3, 156)), (13, 110, 129, (3, 160)), (10, 222, 103, (3, 164)), (13, 114, 130, (3, 170)), (10, 225, 27, (3, 174)), (4, 54, 29, (3, 178)), (4, 89, 22, (3, 182)), (4, 57, 30, (3, 186)), (4, 92, 100, (3, 190)), (4, 95, 104, (3, 191)), (4, 96, 33, (3, 195)), (4, 100, 31, (3, 198)), (4, 103, 34, (3, 202)), (4, 106, 32, (3, 205)), (4, 60, 35, (3, 210)), (4, 115, 37, (3, 214)), (4, 119, 36, (3, 223)), (4, 65, 39, (4, 36)), (4, 156, 41, (4, 40)), (4, 171, 23, (4, 44)), (4, 174, 45, (4, 48)), (4, 186, 25, (4, 52)), (4, 189, 26, (4, 56)), (4, 159, 40, (4, 60)), (4, 165, 38, (4, 64)), (4, 162, 42, (4, 128)), (4, 69, 43, (4, 132)), (4, 177, 44, (4, 136)), (4, 72, 46, (4, 140)), (4, 180, 47, (4, 144)), (10, 231, 28, (4, 148)), (4, 76, 95, (4, 152)), (4, 82, 21, (4, 153)), (4, 85, 24, (4, 157)), (13, 118, 131, (4, 162)), (13, 122, 132, (4, 166)), (10, 235, 83, (4, 170)), (13, 126, 133, (4, 174)), (10, 238, 48, (4, 178)), (5, 18, 83, (4, 182)), (5, 29, 49, (4, 184)), (5, 42, 22, (4, 188)), (5, 45, 94, (4, 189)), (5, 50, 23, (4, 190)), (5, 54, 26, (4, 191)), (5, 58, 51, (4, 192)), (5, 62, 50, (4, 195)), (13, 130, 134, (4, 200)), (10, 242, 52, (4, 204)), (5, 73, 48, (4, 208)), (10, 246, 84, (4, 209)), (13, 134, 135, (4, 215)), (13, 138, 136, (4, 219)), (10, 249, 138, (4, 223)), (10, 257, 85, (4, 228)), (7, 95, 98, (4, 232)), (13, 142, 137, (4, 233)), (13, 146, 139, (4, 237)), (13, 150, 140, (5, 1)), (13, 154, 141, (5, 5)), (10, 263, 86, (5, 9)), (7, 98, 87, (5, 13)), (13, 158, 142, (5, 17)), (10, 266, 0, (5, 21)), (0, 21, 91, (5, 25)), (0, 27, 1, (5, 26)), (0, 37, 94, (5, 30)), (0, 50, 62, (5, 32)), (0, 65, 48, (5, 33)), (0, 71, 84, (5, 34)), (0, 74, 97, (5, 35)), (0, 77, 2, (5, 39)), (0, 46, 95, (5, 44)), (0, 34, 3, (5, 45)), (0, 83, 81, (5, 49)), (0, 58, 86, (5, 51)), (0, 61, 4, (5, 52)), (0, 89, 96, (5, 56)), (0, 93, 70, (5, 57)), (13, 162, 143, (5, 58)), (13, 166, 144, (5, 63)), (10, 273, 63, (5, 67)), (10, 276, 88, (5, 71)), (13, 170, 145, (5, 76)), (10, 279, 53, (5, 80)), (6, 22, 57, (5, 84)), (13, 174, 146, (5, 90)), (10, 282, 54, (5, 94)), (6, 33, 58, (5, 99)), (6, 38, 60, (5, 104)), (13, 178, 147, (5, 107)), (13, 182, 148, (5, 111)), (10, 286, 55, (5, 115)), (6, 43, 59, (5, 120)), (13, 187, 149, (5, 125)), (10, 290, 56, (5, 129)), (13, 191, 150, (5, 134)), (13, 195, 151, (5, 138)), (10, 293, 61, (5, 142)), (7, 39, 99, (5, 146)), (10, 296, 89, (5, 151)), (10, 299, 152, (5, 155)), (10, 302, 90, (5, 159)), (13, 199, 153, (5, 163)), (13, 203, 154, (5, 167)), (13, 207, 155, (5, 171)), (10, 305, 73, (5, 175)), (10, 308, 80, (5, 179)), (13, 17, 175, (6, 59)), (11, 67, 159, (6, 64)), (11, 89, 163, (6, 70)), (13, 22, 176, (6, 74)), (11, 92, 168, (6, 78)), (11, 98, 162, (6, 83)), (13, 26, 177, (6, 87)), (13, 30, 180, (6, 91)), (11, 106, 179, (6, 96)), (11, 101, 173, (6, 100)), (11, 75, 165, (6, 104)), (11, 109, 178, (6, 108)), (11, 71, 164, (6, 112)), (13, 34, 181, (6, 116)), (13, 38, 182, (6, 121)), (11, 114, 169, (6, 125)), (11, 119, 160, (6, 130)), (13, 42, 183, (6, 134)), (13, 46, 185, (6, 139)), (13, 50, 187, (6, 143)), (11, 127, 186, (6, 147)), (11, 124, 172, (6, 151)), (13, 54, 189, (6, 155)), (11, 131, 184, (6, 159)), (11, 135, 188, (6, 164)), (13, 59, 193, (6, 168)), (11, 153, 192, (6, 172)), (11, 149, 191, (6, 176)), (11, 146, 190, (6, 180)), (13, 64, 194, (6, 184)), (13, 68, 195, (6, 188)), (13, 73, 197, (6, 192)), (11, 156, 196, (6, 196)), (13, 77, 198, (6, 199)), (11, 160, 170, (6, 203)), (13, 81, 199, (6, 208)), (13, 85, 200, (6, 213)), (13, 89, 201, (6, 217)), (13, 93, 202, (6, 221)), (13, 97, 203, (6, 225)), (13, 101, 204, (6, 229)), (13, 105, 206, (6, 233)), (11, 166, 205, (6, 237)), (13, 109, 207, (7, 1)), (13, 113, 208, (7, 5)), (13, 117, 225, (7, 9)), (11, 261, 224, (7, 13)), (11, 254, 166, (7, 17)), (11, 221, 211, (7, 21)), (11, 189, 209, (7, 25)), (11, 195, 210, (7, 31)), (11, 257, 215, (7, 37)), (11, 201, 213, (7, 41)), (11, 205, 214, (7, 45)), (11, 251, 218, (7, 49)), (11, 215, 219, (7, 53)), (11, 227, 220, (7, 57)), (11, 230, 221, (7, 61)), (11, 233, 222, (7, 65)), (11, 236, 223, (7, 69)), (11, 224, 217, (7, 73)), (11, 242, 216, (7, 77)), (11, 218, 212, (7, 80)), (13, 121, 226, (7, 84)), (11, 264, 171, (7, 88)), (13, 125, 228, (7, 93)), (11, 269, 227, (7, 97)), (13, 129, 232, (7, 101)), (11, 279, 231, (7, 105)), (11, 276, 230, (7, 109)), (11, 272, 229, (7, 113)), (11, 81, 161, (7, 116)), (13, 133, 234, (7, 119)), (11, 292, 233, (7, 123)), (11, 296, 174, (7, 127)), (13, 137, 235, (7, 132)), (13, 141, 237, (7, 136)), (11, 302, 236, (7, 140)), (11, 299, 167, (7, 144)), (13, 145, 238, (7, 148)), (13, 149, 240, (7, 152)), (11, 305, 239, (7, 156)), (13, 153, 241, (7, 160)), (13, 157, 243, (7, 164)), (11, 308, 242, (7, 168)), (13, 161, 248, (7, 172)), (11, 322, 247, (7, 177)), (11, 311, 244, (7, 181)), (11, 314, 245, (7, 185)), (11, 317, 246, (7, 189)), (13, 165, 249, (7, 193)), (13, 169, 250, (7, 198)), (13, 173, 253, (7, 203)), (11, 328, 251, (7, 207)), (13, 177, 255, (7, 212)), (11, 336, 254, (7, 216)), (11, 339, 252, (7, 222)), (13, 181, 256, (7, 225)), (13, 186, 257, (7, 230)), (13, 190, 258, (7, 234)), (13, 194, 259, (7, 238)), (13, 198, 261, (8, 2)), (11, 354, 260, (8, 7)), (13, 202, 262, (8, 11)), (13, 206, 263, (8, 15)), (13, 210, 264, (8, 19))]
set_option maxRecDepth 100000 in
def mjT : List (Nat × Nat × Nat × Nat × Nat) := [(8, 15, 1001, (1, 41)), (1, 64, 1002, (2, 225)), (1, 99, 1003, (3, 9)), (2, 67, 1002, (3, 143)), (9, 19, 1002, (3, 168)), (9, 25, 1001, (3, 169)), (4, 109, 1002, (3, 209)), (4, 123, 900, (3, 227)), (4, 128, 901, (3, 237)), (4, 168, 902, (4, 73)), (4, 183, 1001, (4, 147)), (5, 33, 1002, (4, 198)), (5, 39, 1001, (4, 199)), (7, 90, 1002, (4, 214)), (10, 252, 1002, (4, 227)), (0, 80, 1002, (5, 43)), (0, 41, 1001, (5, 50)), (6, 46, 1003, (5, 124)), (8, 39, 1003, (5, 150))]
def stT : List (Nat × Nat × Nat × Nat × Nat) := [(10, 311, 1201, (3, 56)), (10, 314, 1202, (3, 58)), (10, 317, 1203, (3, 60))]
def srT : List (Nat × Nat × Nat) := [(4, 132, 1000), (4, 134, 1001), (4, 136, 1002), (4, 138, 1003), (4, 140, 1004), (4, 142, 1005), (4, 144, 1006), (4, 146, 1007), (4, 148, 1008), (4, 150, 1009), (4, 152, 1010), (4, 154, 1011)]
set_option maxRecDepth 100000 in
def cdk0 : Cd := [e1 (.aload_n 0), eS (.invokespecial 3) 99 0 8, none, none, e1 (.aload_n 0), e1 (.aload_n 1), eS (.putfield 9) 0 0 34, none, none, e1 .return_]
set_option maxRecDepth 100000 in
def cdk1 : Cd := [e1 (.aload_n 0), eS (.invokespecial 3) 99 0 10, none, none, e1 (.aload_n 0), eV (.bipush 10) 2 10, none, e2 (.newarray .int), none, eS (.putfield 9) 1 0 40, none, none, e1 (.aload_n 0), eV (.bipush 10) 2 10, none, 
  e2 (.newarray .int), none, eG (.putfield 15) 1 1 1 41, none, none, e1 (.aload_n 0), eV (.bipush 10) 2 10, none, e2 (.newarray .int), none, eG (.putfield 18) 1 2 2 42, none, none, e1 (.aload_n 0), eV (.iconst 3) 1 3, 
  e2 (.newarray .int), none, eG (.putfield 21) 1 3 3 43, none, none, e1 (.aload_n 0), eV (.iconst 3) 1 3, e2 (.newarray .int), none, eG (.putfield 24) 1 4 4 44, none, none, e1 (.aload_n 0), eV (.bipush 10) 2 10, none, 
  e2 (.newarray .int), none, eG (.putfield 27) 1 5 5 45, none, none, e1 (.aload_n 0), eV (.bipush 10) 2 10, none, e2 (.newarray .int), none, eG (.putfield 30) 1 6 6 46, none, none, e1 (.aload_n 0), eV (.bipush 11) 2 11, 
  none, e2 (.newarray .int), none, eG (.putfield 33) 1 7 7 47, none, none, e1 (.aload_n 0), eV (.bipush 121) 2 121, none, e2 (.newarray .int), none, eG (.putfield 36) 1 8 8 48, none, none, e1 (.aload_n 0), 
  eV (.bipush 11) 2 11, none, e2 (.newarray .int), none, eG (.putfield 39) 1 9 9 49, none, none, e1 (.aload_n 0), e1 (.iconst 0), eG (.putfield 42) 1 10 10 50, none, none, e1 (.aload_n 0), e1 (.iconst 0), 
  eG (.putfield 46) 1 11 11 51, none, none, e1 (.aload_n 0), e1 (.iconst 0), eG (.putfield 49) 1 12 12 52, none, none, e1 .return_]
set_option maxRecDepth 100000 in
def cdk2 : Cd := [e1 (.aload_n 0), eS (.invokespecial 3) 99 0 9, none, none, e1 (.aload_n 0), eV (.bipush 30) 2 30, none, e2 (.newarray .int), none, eS (.putfield 9) 2 0 35, none, none, e1 (.aload_n 0), eV (.bipush 10) 2 10, none, 
  e2 (.newarray .int), none, eG (.putfield 15) 2 1 1 36, none, none, e1 (.aload_n 0), eV (.bipush 10) 2 10, none, e2 (.newarray .int), none, eG (.putfield 18) 2 2 2 37, none, none, e1 (.aload_n 0), e1 (.iconst 0), 
  eG (.putfield 21) 2 3 3 38, none, none, e1 (.aload_n 0), e1 (.iconst 0), eG (.putfield 25) 2 4 4 39, none, none, e1 .return_]
set_option maxRecDepth 100000 in
def cdk3 : Cd := [e1 (.aload_n 0), eS (.invokespecial 3) 99 0 6, none, none, e1 (.aload_n 0), eV (.bipush 96) 2 96, none, e2 (.newarray .int), none, eS (.putfield 9) 3 0 31, none, none, e1 (.aload_n 0), e1 (.iconst 0), 
  eG (.putfield 15) 3 1 1 32, none, none, e1 .return_]
set_option maxRecDepth 100000 in
def cdk4 : Cd := [e1 (.aload_n 0), eS (.invokespecial 3) 99 0 13, none, none, e1 (.aload_n 0), eS (.new 9) 3 0 10, none, none, e1 .dup, eS (.invokespecial 11) 3 1 6, none, none, eG (.putfield 12) 4 1 1 56, none, none, e1 (.aload_n 0), 
  eS (.new 9) 3 0 10, none, none, e1 .dup, eS (.invokespecial 11) 3 1 6, none, none, eG (.putfield 18) 4 2 2 57, none, none, e1 (.aload_n 0), e1 (.iconst 0), eG (.putfield 21) 4 3 3 58, none, none, e1 (.aload_n 0), 
  e1 (.iconst 0), eG (.putfield 25) 4 4 4 59, none, none, e1 (.aload_n 0), e1 (.iconst 0), eG (.putfield 28) 4 5 5 60, none, none, e1 (.aload_n 0), e1 (.iconst 0), eG (.putfield 31) 4 6 6 61, none, none, e1 (.aload_n 0), 
  e1 (.iconst 0), eG (.putfield 34) 4 7 7 62, none, none, e1 (.aload_n 0), e1 (.iconst 0), eG (.putfield 37) 4 8 8 63, none, none, e1 (.aload_n 0), eV (.iconst 1) 1 1, eG (.putfield 40) 4 9 9 64, none, none, 
  e1 (.aload_n 0), e1 (.iconst 0), eG (.putfield 44) 4 10 10 65, none, none, e1 (.aload_n 0), e1 (.iconst 0), eG (.putfield 47) 4 11 11 66, none, none, e1 (.aload_n 0), e1 (.aload_n 1), eS (.putfield 50) 4 0 55, none, none, 
  e1 .return_]
set_option maxRecDepth 100000 in
def cdk5 : Cd := [e1 (.aload_n 0), eS (.invokespecial 3) 99 0 5, none, none, e1 (.aload_n 0), eS (.new 9) 3 0 4, none, none, e1 .dup, eS (.invokespecial 11) 3 1 2, none, none, eS (.putfield 12) 5 0 33, none, none, e1 .return_]
set_option maxRecDepth 100000 in
def cdk6 : Cd := [e1 (.aload_n 0), eS (.invokespecial 3) 99 0 14, none, none, e1 (.aload_n 0), eV (.iconst 4) 1 4, e2 (.newarray .int), none, e1 .dup, e1 (.iconst 0), eV (.iconst (-1)) 1 (-1), e1 .iastore, e1 .dup, eV (.iconst 1) 1 1, 
  eV (.iconst (-1)) 1 (-1), e1 .iastore, e1 .dup, eV (.iconst 2) 1 2, eV (.iconst (-1)) 1 (-1), e1 .iastore, e1 .dup, eV (.iconst 3) 1 3, eV (.iconst (-1)) 1 (-1), e1 .iastore, eS (.putfield 11) 6 0 67, none, none, 
  e1 (.aload_n 0), eV (.iconst 4) 1 4, e2 (.newarray .int), none, eG (.putfield 15) 6 1 1 68, none, none, e1 (.aload_n 0), eV (.bipush 96) 2 96, none, eA (.newarray .long) 2 1, none, eG (.putfield 18) 6 2 2 69, none, none, 
  e1 .return_]
set_option maxRecDepth 100000 in
def cdk7 : Cd := [e1 (.aload_n 0), eS (.invokespecial 3) 99 0 2, none, none, e1 (.aload_n 0), eS (.new 9) 8 0 2, none, none, e1 .dup, eV (.iconst 3) 1 3, eV (.bipush 8) 2 8, none, eS (.invokespecial 11) 8 0 3, none, none, 
  eS (.putfield 14) 7 0 4, none, none, e1 (.aload_n 0), eS (.new 9) 8 0 2, none, none, e1 .dup, eV (.bipush 10) 2 10, none, eV (.bipush 14) 2 14, none, eS (.invokespecial 11) 8 0 3, none, none, eG (.putfield 20) 7 1 1 9, 
  none, none, e1 (.aload_n 0), eS (.new 9) 8 0 2, none, none, e1 .dup, eV (.bipush 30) 2 30, none, eV (.bipush 8) 2 8, none, eS (.invokespecial 11) 8 0 3, none, none, eG (.putfield 23) 7 2 2 15, none, none, e1 (.aload_n 0), 
  eS (.new 9) 8 0 2, none, none, e1 .dup, eV (.bipush 12) 2 12, none, eV (.bipush 100) 2 100, none, eS (.invokespecial 11) 8 0 3, none, none, eG (.putfield 26) 7 3 3 19, none, none, e1 (.aload_n 0), eS (.new 9) 8 0 2, none, 
  none, e1 .dup, eV (.bipush 40) 2 40, none, eV (.iconst 4) 1 4, eS (.invokespecial 11) 8 0 3, none, none, eG (.putfield 29) 7 4 4 22, none, none, e1 (.aload_n 0), e1 (.iconst 0), eG (.putfield 32) 7 5 5 24, none, none, 
  e1 (.aload_n 0), e1 (.iconst 0), eG (.putfield 36) 7 6 6 29, none, none, e1 .return_]
set_option maxRecDepth 100000 in
def cdk8 : Cd := [e1 (.aload_n 0), eS (.invokespecial 3) 99 0 4, none, none, e1 (.aload_n 0), e1 (.iconst 0), eG (.putfield 9) 8 2 2 2, none, none, e1 (.aload_n 0), e1 (.iconst 0), e1 (.iload_n 1), eS (.invokestatic 15) 1001 2 0, none, 
  none, eG (.putfield 21) 8 3 3 3, none, none, e1 (.aload_n 0), e1 (.iconst 0), e1 (.iload_n 2), eS (.invokestatic 15) 1001 2 0, none, none, eS (.putfield 24) 8 0 0, none, none, e1 (.aload_n 0), e1 (.aload_n 0), 
  eG (.getfield 21) 8 3 3 3, none, none, e1 (.aload_n 0), eS (.getfield 24) 8 0 0, none, none, e1 .imul, e2 (.newarray .int), none, eG (.putfield 27) 8 1 1 1, none, none, e1 .return_]
set_option maxRecDepth 100000 in
def cdk9 : Cd := [e1 (.aload_n 0), eS (.invokespecial 3) 99 0 11, none, none, e1 (.aload_n 0), eV (.bipush 96) 2 96, none, e2 (.newarray .int), none, eS (.putfield 9) 9 0 53, none, none, e1 (.aload_n 0), e1 (.iconst 0), 
  eG (.putfield 15) 9 1 1 54, none, none, e1 .return_]
set_option maxRecDepth 100000 in
def cdk10 : Cd := [e1 (.aload_n 0), eS (.invokespecial 3) 99 0 1, none, none, e1 (.aload_n 0), eS (.new 9) 7 0 1, none, none, e1 .dup, eS (.invokespecial 11) 7 1 0, none, none, eS (.putfield 12) 10 0 70, none, none, e1 (.aload_n 0), 
  eS (.new 9) 7 0 1, none, none, e1 .dup, eS (.invokespecial 11) 7 1 0, none, none, eG (.putfield 16) 10 1 1 71, none, none, e1 (.aload_n 0), eS (.new 9) 7 0 1, none, none, e1 .dup, eS (.invokespecial 11) 7 1 0, none, none, 
  eG (.putfield 19) 10 2 2 72, none, none, e1 (.aload_n 0), eS (.new 22) 5 0 3, none, none, e1 .dup, eS (.invokespecial 24) 5 1 1, none, none, eG (.putfield 25) 10 3 3 73, none, none, e1 (.aload_n 0), eS (.new 29) 0 0 5, 
  none, none, e1 .dup, e1 (.aload_n 0), eG (.getfield 25) 10 3 3 73, none, none, eS (.invokespecial 31) 0 0 7, none, none, eG (.putfield 34) 10 4 4 74, none, none, e1 (.aload_n 0), eS (.new 38) 2 0 6, none, none, e1 .dup, 
  eS (.invokespecial 40) 2 1 3, none, none, eG (.putfield 41) 10 5 5 75, none, none, e1 (.aload_n 0), eS (.new 45) 1 0 7, none, none, e1 .dup, eS (.invokespecial 47) 1 1 4, none, none, eG (.putfield 48) 10 6 6 76, none, 
  none, e1 (.aload_n 0), eS (.new 52) 9 0 8, none, none, e1 .dup, eS (.invokespecial 54) 9 1 5, none, none, eG (.putfield 55) 10 7 7 77, none, none, e1 (.aload_n 0), eS (.new 59) 4 0 9, none, none, e1 .dup, e1 (.aload_n 0), 
  eG (.getfield 55) 10 7 7 77, none, none, eS (.invokespecial 61) 4 0 12, none, none, eG (.putfield 64) 10 8 8 78, none, none, e1 (.aload_n 0), eS (.new 68) 6 0 11, none, none, e1 .dup, eS (.invokespecial 70) 6 1 7, none, 
  none, eG (.putfield 71) 10 9 9 79, none, none, e1 (.aload_n 0), eV (.bipush 60) 2 60, none, e2 (.newarray .int), none, eG (.putfield 75) 10 10 10 80, none, none, e1 (.aload_n 0), e1 (.iconst 0), 
  eG (.putfield 79) 10 11 11 81, none, none, e1 (.aload_n 0), e1 (.iconst 0), eG (.putfield 83) 10 12 12 82, none, none, e1 .return_]
set_option maxRecDepth 100000 in
def cdk11 : Cd := [e1 (.aload_n 0), eS (.invokespecial 1) 99 0 16, none, none, e1 (.aload_n 0), eV (.sipush 3400) 3 3400, none, none, e2 (.newarray .int), none, eS (.putfield 7) 11 0 83, none, none, e1 (.aload_n 0), 
  eV (.sipush 3400) 3 3400, none, none, e2 (.newarray .int), none, eG (.putfield 13) 11 1 1 84, none, none, e1 (.aload_n 0), eV (.sipush 3400) 3 3400, none, none, e2 (.newarray .int), none, eG (.putfield 16) 11 2 2 85, 
  none, none, e1 (.aload_n 0), eV (.iconst 4) 1 4, e2 (.newarray .int), none, eG (.putfield 19) 11 4 4 87, none, none, e1 (.aload_n 0), eV (.iconst 4) 1 4, e2 (.newarray .int), none, eG (.putfield 22) 11 5 5 88, none, none, 
  e1 (.aload_n 0), eV (.bipush 96) 2 96, none, eA (.newarray .long) 2 1, none, eG (.putfield 25) 11 6 6 89, none, none, e1 (.aload_n 0), eV (.bipush 10) 2 10, none, e2 (.newarray .int), none, eG (.putfield 29) 11 7 7 90, 
  none, none, e1 (.aload_n 0), eV (.bipush 10) 2 10, none, e2 (.newarray .int), none, eG (.putfield 32) 11 8 8 91, none, none, e1 (.aload_n 0), eV (.iconst 3) 1 3, e2 (.newarray .int), none, eG (.putfield 35) 11 9 9 92, 
  none, none, e1 (.aload_n 0), eV (.bipush 30) 2 30, none, eA (.newarray .boolean) 2 2, none, eG (.putfield 38) 11 12 12 95, none, none, e1 (.aload_n 0), eV (.bipush 10) 2 10, none, e2 (.newarray .int), none, 
  eG (.putfield 42) 11 13 13 96, none, none, e1 (.aload_n 0), eV (.bipush 10) 2 10, none, e2 (.newarray .int), none, eG (.putfield 45) 11 14 14 97, none, none, e1 (.aload_n 0), eV (.bipush 96) 2 96, none, 
  e2 (.newarray .int), none, eG (.putfield 48) 11 15 15 98, none, none, e1 (.aload_n 0), eV (.sipush 128) 3 128, none, none, e2 (.newarray .int), none, eG (.putfield 51) 11 27 27 110, none, none, e1 (.aload_n 0), 
  eV (.bipush 100) 2 100, none, e2 (.newarray .int), none, eG (.putfield 54) 11 28 28 111, none, none, e1 (.aload_n 0), eV (.bipush 24) 2 24, none, eA (.newarray .long) 2 1, none, eG (.putfield 57) 11 32 32 115, none, none, 
  e1 (.aload_n 0), eV (.bipush 60) 2 60, none, e2 (.newarray .int), none, eG (.putfield 60) 11 33 33 116, none, none, e1 (.aload_n 0), eV (.bipush 60) 2 60, none, e2 (.newarray .int), none, eG (.putfield 63) 11 35 35 118, 
  none, none, e1 (.iconst 0), e1 (.istore_n 1), e1 (.iload_n 1), eV (.iconst 4) 1 4, eA (.if_icmp .ge 16) 3 169, none, none, e1 (.aload_n 0), eG (.getfield 19) 11 4 4 87, none, none, e1 (.iload_n 1), 
  eV (.iconst (-1)) 1 (-1), e1 .iastore, eV (.iinc 1 1) 3 1, none, none, eA (.goto (-15)) 3 151, none, none, e1 .return_]
set_option maxRecDepth 100000 in
def cdk12 : Cd := [eS (.new 7) 10 0 0, none, none, e1 .dup, eS (.invokespecial 9) 10 0 0, none, none, e1 (.astore_n 1), eS (.new 10) 11 0 12, none, none, e1 .dup, eS (.invokespecial 12) 11 0 15, none, none, e1 (.astore_n 2), none, none, 
  none, none, none, none, none, none, none, none, none, none, none, none, none, none, none, none, none, none, none, none, none, none, none, none, none, none, none, none, none, none, none, none, none, none, none, none, none, 
  none, none, none, none, none, none, none, none, none, none, none, none, none, none, none, none, none, none, none, none, none, none, none, none, none, none, none, none, none, none, none, none, none, none, none, none, none, 
  none, none, none, none, none, none, none, none, none, none, none, none, none, none, none, none, none, none, none, none, none, none, none, none, none, none, none, none, none, none, none, none, none, none, none, none, none, 
  none, none, none, none, none, none, none, none, none, none, none, none, none, none, none, none, none, none, none, none, none, none, none, none, none, none, none, none, none, none, none, none, none, none, none, none, none, 
  none, none, none, none, none, none, none, none, none, none, none, none, none, none, none, none, none, none, none, none, none, none, none, none, none, none, none, none, none, none, none, none, none, none, none, none, none, 
  none, none, none, none, none, none, none, none, none, none, none, none, none, none, none, none, none, none, none, none, none, none, none, none, none, none, none, none, none, none, none, none, none, none, none, none, none, 
  none, none, none, none, none, none, none, none, none, none, none, none, none, none, none, none, none, none, none, none, none, none, none, none, none, none, none, none, none, none, none, none, none, none, none, none, none, 
  none, none, none, none, none, none, none, none, none, none, none, none, none, none, none, none, none, none, none, none, none, none, none, none, none, none, none, none, none, none, none, none, none, none, none, none, none, 
  none, none, none, none, none, none, none, none, none, none, none, none, none, none, none, none, none, none, none, none, none, none, none, none, none, none, none, none, none, none, none, none, none, none, none, none, none, 
  none, none, none, none, none, none, none, none, none, none, none, none, none, none, none, none, none, none, none, none, none, none, none, none, none, none, none, none, none, none, none, none, none, none, none, none, none, 
  none, none, none, none, none, none, none, none, none, none, none, none, none, none, none, none, none, none, none, none, none, none, none, none, none, none, none, none, none, none, none, none, none, none, none, none, none, 
  none, none, none, none, none, none, none, none, none, none, none, none, none, none, none, none, none, none, none, none, none, none, none, none, none, none, none, none, none, none, none, none, none, none, none, none, none, 
  none, none, none, none, none, none, none, none, none, none, none, none, none, none, none, none, none, none, none, none, none, none, none, none, none, none, none, none, none, none, none, none, none, none, none, none, none, 
  none, none, none, none, none, none, none, none, none, none, none, none, none, none, none, none, none, none, none, none, none, none, none, none, none, none, none, none, none, none, none, none, none, none, none, none, none, 
  none, none, none, none, none, none, none, none, none, none, none, none, none, none, none, none, none, none, none, none, none, none, none, none, none, none, none, none, none, none, none, none, none, none, none, none, none, 
  none, none, none, none, none, none, none, none, none, none, none, none, none, none, none, none, none, none, none, none, none, none, none, none, none, none, none, none, none, none, none, none, none, none, none, none, none, 
  none, none, none, none, none, none, none, none, none, none, none, none, none, none, none, none, none, none, none, none, none, none, none, none, none, none, none, none, none, none, none, none, none, none, none, none, none, 
  none, none, none, none, none, none, none, none, none, none, none, none, none, none, none, none, none, none, none, none, none, none, none, none, none, none, none, none, none, none, none, none, none, none, none, none, none, 
  none, none, none, none, none, none, none, none, none, none, none, none, none, none, none, none, none, none, none, none, none, none, none, none, none, none, none, none, none, none, none, none, none, none, none, none, none, 
  none, none, none, none, none, none, none, none, none, none, none, none, none, none, none, none, none, none, none, none, none, none, none, none, none, none, none, none, none, none, none, none, none, none, none, none, none, 
  none, none, none, none, none, none, none, none, none, none, none, none, none, none, none, none, none, none, none, none, none, none, none, none, none, none, none, none, none, none, none, none, none, none, none, none, none, 
  none, none, none, none, none, none, none, none, none, none, none, none, none, none, none, none, none, none, none, none, none, none, none, none, none, none, none, none, none, none, none, none, none, none, none, none, none, 
  none, none, none, none, none, none, none, none, none, none, none, none, none, none, none, none, none, none, none, none, none, none, none, none, none, none, none, none, none, none, none, none, none, none, none, none, none, 
  none, none, none, none, none, none, none, none, none, none, none, none, none, none, none, none, none, none, none, none, none, none, none, none, none, none, none, none, none, none, none, none, none, none, none, none, none, 
  none, none, none, none, none, none, none, none, none, none, none, none, none, none, none, none, none, none, none, none, none, none, none, none, none, none, none, none, none, none, none, none, none, none, none, none, none, 
  none, none, none, none, none, none, none, none, none, none, none, none, none, none, none, none, none, none, none, none, none, none, none, none, none, none, none, none, none, none, none, none, none, none, none, none, none, 
  none, none, none, none, none, none, none, none, none, none, none, none, none, none, none, none, none, none, none, none, none, none, none, none, none, none, none, none, none, none, none, none, none, none, none, none, none, 
  none, none, none, none, none, none, none, none, none, none, none, none, none, none, none, none, none, none, none, none, none, none, none, none, none, none, none, none, none, none, none, none, none, none, none, none, none, 
  none, none, none, none, none, none, none, none, none, none, none, none, none, none, none, none, none, none, none, none, none, none, none, none, none, none, none, none, none, none, none, none, none, none, none, none, none, 
  none, none, none, none, none, none, none, none, none, none, none, none, none, none, none, none, none, none, none, none, none, none, none, none, none, none, none, none, none, none, none, none, none, none, none, none, none, 
  none, none, none, none, none, none, none, none, none, none, none, none, none, none, none, none, none, none, none, none, none, none, none, none, none, none, none, none, none, none, none, none, none, none, none, none, none, 
  none, none, none, none, none, none, none, none, none, none, none, none, none, none, none, none, none, none, none, none, none, none, none, none, none, none, none, none, none, none, none, none, none, none, none, none, none, 
  none, none, none, none, none, none, none, none, none, none, none, none, none, none, none, none, none, none, none, none, none, none, none, none, none, none, none, none, none, none, none, none, none, none, none, none, none, 
  none, none, none, none, none, none, none, none, none, none, none, none, none, none, none, none, none, none, none, none, none, none, none, none, none, none, none, none, none, none, none, none, none, none, none, none, none, 
  none, none, none, none, none, none, none, none, none, none, none, none, none, none, none, none, none, none, none, none, none, none, none, none, none, none, none, none, none, none, none, none, none, none, none, none, none, 
  none, none, none, none, none, none, none, none, none, none, none, none, none, none, none, none, none, none, none, none, none, none, none, none, none, none, none, none, none, none, none, none, none, none, none, none, none, 
  none, none, none, none, none, none, none, none, none, none, none, none, none, none, none, none, none, none, none, none, none, none, none, none, none, none, none, none, none, none, none, none, none, none, none, none, none, 
  none, none, none, none, none, none, none, none, none, none, none, none, none, none, none, none, none, none, none, none, none, none, none, none, none, none, none, none, none, none, none, none, none, none, none, none, none, 
  none, none, none, none, none, none, none, none, none, none, none, none, none, none, none, none, none, none, none, none, none, none, none, none, none, none, none, none, none, none, none, none, none, none, none, none, none, 
  none, none, none, none, none, none, none, none, none, none, none, none, none, none, none, none, none, none, none, none, none, none, none, none, none, none, none, none, none, none, none, none, none, none, none, none, none, 
  none, none, none, none, none, none, none, none, none, none, none, none, none, none, none, none, none, none, none, none, none, none, none, none, none, none, none, none, none, none, none, none, none, none, none, none, none, 
  none, none, none, none, none, none, none, none, none, none, none, none, none, none, none, none, none, none, none, none, none, none, none, none, none, none, none, none, none, none, none, none, none, none, none, none, none, 
  none, none, none, none, none, none, none, none, none, none, none, none, none, none, none, none, none, none, none, none, none, none, none, none, none, none, none, none, none, none, none, none, none, none, none, none, none, 
  none, none, none, none, none, none, none, none, none, none, none, none, none, none, none, none, none, none, none, none, none, none, none, none, none, none, none, none, none, none, none, none, none, none, none, none, none, 
  none, none, none, none, none, none, none, none, none, none, none, none, none, none, none, none, none, none, none, none, none, none, none, none, none, none, none, none, none, none, none, none, none, none, none, none, none, 
  none, none, none, none, none, none, none, none, none, none, none, none, none, none, none, none, none, none, none, none, none, none, none, none, none, none, none, none, none, none, none, none, none, none, none, none, none, 
  none, none]
set_option maxRecDepth 100000 in
def cdL0 : Cd := [none, none, none, none, none, none, none, none, none, none, none, none, none, none, none, none, e1 (.iconst 0), e1 (.istore_n 3), e1 (.iload_n 3), e1 (.aload_n 0), e1 .arraylength, eV (.bipush 6) 2 6, none, e1 .isub, eA (.if_icmp .gt 1696) 3 1720, none, none, e1 (.aload_n 0), e1 (.iload_n 3), e1 .iaload, eV (.bipush 63) 2 63, none, e1 .iand, some (.tableswitch 1681 0 47 #[207, 250, 283, 316, 349, 392, 425, 468, 511, 544, 577, 600, 613, 626, 679, 712, 745, 778, 801, 834, 857, 880, 903, 946, 969, 992, 1025, 1048, 1101, 1124, 1157, 1180, 1213, 1236, 1269, 1302, 1325, 1348, 1371, 1414, 1457, 1500, 1563, 1586, 1609, 1632, 1645, 1658], 207, 1714, 0, 0, 0, [(0, 240), (1, 283), (2, 316), (3, 349), (4, 382), (5, 425), (6, 458), (7, 501), (8, 544), (9, 577), (10, 610), (11, 633), (12, 646), (13, 659), (14, 712), (15, 745), (16, 778), (17, 811), (18, 834), (19, 867), (20, 890), (21, 913), (22, 936), (23, 979), (24, 1002), (25, 1025), (26, 1058), (27, 1081), (28, 1134), (29, 1157), (30, 1190), (31, 1213), (32, 1246), (33, 1269), (34, 1302), (35, 1335), (36, 1358), (37, 1381), (38, 1404), (39, 1447), (40, 1490), (41, 1533), (42, 1596), (43, 1619), (44, 1642), (45, 1665), (46, 1678), (47, 1691)]), none, none, none, none, none, none, none, none, none, none, none, none, none, none, none, none, none, none, none, none, none, none, none, none, none, none, none, none, none, none, none, none, none, none, none, none, none, none]
set_option maxRecDepth 100000 in
def cdL1 : Cd := [none, none, none, none, none, none, none, none, none, none, none, none, none, none, none, none, none, none, none, none, none, none, none, none, none, none, none, none, none, none, none, none, none, none, none, none, none, none, none, none, none, none, none, none, none, none, none, none, none, none, none, none, none, none, none, none, none, none, none, none, none, none, none, none, none, none, none, none, none, none, none, none]
set_option maxRecDepth 100000 in
def cdL2 : Cd := [none, none, none, none, none, none, none, none, none, none, none, none, none, none, none, none, none, none, none, none, none, none, none, none, none, none, none, none, none, none, none, none, none, none, none, none, none, none, none, none, none, none, none, none, none, none, none, none, none, none, none, none, none, none, none, none, none, none, none, none, none, none, none, none, none, none, none, none, none, none, none, none]
set_option maxRecDepth 100000 in
def cdL3 : Cd := [none, none, none, none, none, none, none, none, none, none, none, none, none, none, none, none, none, none, none, none, none, none, none, none, e1 (.aload_n 1), e1 (.aload_n 0), e1 (.iload_n 3), eV (.iconst 1) 1 1, e1 .iadd, e1 .iaload, e1 (.aload_n 0), e1 (.iload_n 3), eV (.iconst 2) 1 2, e1 .iadd, e1 .iaload, e1 (.aload_n 0), e1 (.iload_n 3), eV (.iconst 3) 1 3, e1 .iadd, e1 .iaload, eS (.invokevirtual 13) 105 3 0, none, none, e1 .pop, e1 (.aload_n 2), e1 (.aload_n 0), e1 (.iload_n 3), eV (.iconst 1) 1 1, e1 .iadd, e1 .iaload, e1 (.aload_n 0), e1 (.iload_n 3), eV (.iconst 2) 1 2, e1 .iadd, e1 .iaload, e1 (.aload_n 0), e1 (.iload_n 3), eV (.iconst 3) 1 3, e1 .iadd, e1 .iaload, eS (.invokevirtual 17) 175 3 193, none, none, e1 .pop, eA (.goto 1434) 3 1714, none, none, e1 (.aload_n 1), e1 (.aload_n 0), e1 (.iload_n 3), eV (.iconst 1) 1 1, e1 .iadd]
set_option maxRecDepth 100000 in
def cdL4 : Cd := [e1 .iaload, e1 (.aload_n 0), e1 (.iload_n 3), eV (.iconst 2) 1 2, e1 .iadd, e1 .iaload, eS (.invokevirtual 18) 106 2 5, none, none, e1 .pop, e1 (.aload_n 2), e1 (.aload_n 0), e1 (.iload_n 3), eV (.iconst 1) 1 1, e1 .iadd, e1 .iaload, e1 (.aload_n 0), e1 (.iload_n 3), eV (.iconst 2) 1 2, e1 .iadd, e1 .iaload, eS (.invokevirtual 22) 176 2 196, none, none, e1 .pop, eA (.goto 1401) 3 1714, none, none, e1 (.aload_n 1), e1 (.aload_n 0), e1 (.iload_n 3), eV (.iconst 1) 1 1, e1 .iadd, e1 .iaload, e1 (.aload_n 0), e1 (.iload_n 3), eV (.iconst 2) 1 2, e1 .iadd, e1 .iaload, eS (.invokevirtual 23) 107 2 10, none, none, e1 .pop, e1 (.aload_n 2), e1 (.aload_n 0), e1 (.iload_n 3), eV (.iconst 1) 1 1, e1 .iadd, e1 .iaload, e1 (.aload_n 0), e1 (.iload_n 3), eV (.iconst 2) 1 2, e1 .iadd, e1 .iaload, eS (.invokevirtual 26) 177 2 199, none, none, e1 .pop, eA (.goto 1368) 3 1714, none, none, e1 (.aload_n 1), e1 (.aload_n 0), e1 (.iload_n 3), eV (.iconst 1) 1 1, e1 .iadd, e1 .iaload, e1 (.aload_n 0), e1 (.iload_n 3), eV (.iconst 2) 1 2, e1 .iadd, e1 .iaload]
set_option maxRecDepth 100000 in
def cdL5 : Cd := [eS (.invokevirtual 27) 108 2 11, none, none, e1 .pop, e1 (.aload_n 2), e1 (.aload_n 0), e1 (.iload_n 3), eV (.iconst 1) 1 1, e1 .iadd, e1 .iaload, e1 (.aload_n 0), e1 (.iload_n 3), eV (.iconst 2) 1 2, e1 .iadd, e1 .iaload, eS (.invokevirtual 30) 180 2 200, none, none, e1 .pop, eA (.goto 1335) 3 1714, none, none, e1 (.aload_n 1), e1 (.aload_n 0), e1 (.iload_n 3), eV (.iconst 1) 1 1, e1 .iadd, e1 .iaload, e1 (.aload_n 0), e1 (.iload_n 3), eV (.iconst 2) 1 2, e1 .iadd, e1 .iaload, e1 (.aload_n 0), e1 (.iload_n 3), eV (.iconst 3) 1 3, e1 .iadd, e1 .iaload, eS (.invokevirtual 31) 109 3 19, none, none, e1 .pop, e1 (.aload_n 2), e1 (.aload_n 0), e1 (.iload_n 3), eV (.iconst 1) 1 1, e1 .iadd, e1 .iaload, e1 (.aload_n 0), e1 (.iload_n 3), eV (.iconst 2) 1 2, e1 .iadd, e1 .iaload, e1 (.aload_n 0), e1 (.iload_n 3), eV (.iconst 3) 1 3, e1 .iadd, e1 .iaload, eS (.invokevirtual 34) 181 3 206, none, none, e1 .pop, eA (.goto 1292) 3 1714, none, none, e1 (.aload_n 1), e1 (.aload_n 0), e1 (.iload_n 3), eV (.iconst 1) 1 1, e1 .iadd, e1 .iaload, e1 (.aload_n 0)]
set_option maxRecDepth 100000 in
def cdL6 : Cd := [e1 (.iload_n 3), eV (.iconst 2) 1 2, e1 .iadd, e1 .iaload, eS (.invokevirtual 35) 110 2 20, none, none, e1 .pop, e1 (.aload_n 2), e1 (.aload_n 0), e1 (.iload_n 3), eV (.iconst 1) 1 1, e1 .iadd, e1 .iaload, e1 (.aload_n 0), e1 (.iload_n 3), eV (.iconst 2) 1 2, e1 .iadd, e1 .iaload, eS (.invokevirtual 38) 182 2 207, none, none, e1 .pop, eA (.goto 1259) 3 1714, none, none, e1 (.aload_n 1), e1 (.aload_n 0), e1 (.iload_n 3), eV (.iconst 1) 1 1, e1 .iadd, e1 .iaload, e1 (.aload_n 0), e1 (.iload_n 3), eV (.iconst 2) 1 2, e1 .iadd, e1 .iaload, e1 (.aload_n 0), e1 (.iload_n 3), eV (.iconst 3) 1 3, e1 .iadd, e1 .iaload, eS (.invokevirtual 39) 111 3 21, none, none, e1 .pop, e1 (.aload_n 2), e1 (.aload_n 0), e1 (.iload_n 3), eV (.iconst 1) 1 1, e1 .iadd, e1 .iaload, e1 (.aload_n 0), e1 (.iload_n 3), eV (.iconst 2) 1 2, e1 .iadd, e1 .iaload, e1 (.aload_n 0), e1 (.iload_n 3), eV (.iconst 3) 1 3, e1 .iadd, e1 .iaload, eS (.invokevirtual 42) 183 3 210, none, none, e1 .pop, eA (.goto 1216) 3 1714, none, none, e1 (.aload_n 1), e1 (.aload_n 0), e1 (.iload_n 3)]
set_option maxRecDepth 100000 in
def cdL7 : Cd := [eV (.iconst 1) 1 1, e1 .iadd, e1 .iaload, e1 (.aload_n 0), e1 (.iload_n 3), eV (.iconst 2) 1 2, e1 .iadd, e1 .iaload, e1 (.aload_n 0), e1 (.iload_n 3), eV (.iconst 3) 1 3, e1 .iadd, e1 .iaload, eS (.invokevirtual 43) 113 3 23, none, none, e1 .pop, e1 (.aload_n 2), e1 (.aload_n 0), e1 (.iload_n 3), eV (.iconst 1) 1 1, e1 .iadd, e1 .iaload, e1 (.aload_n 0), e1 (.iload_n 3), eV (.iconst 2) 1 2, e1 .iadd, e1 .iaload, e1 (.aload_n 0), e1 (.iload_n 3), eV (.iconst 3) 1 3, e1 .iadd, e1 .iaload, eS (.invokevirtual 46) 185 3 211, none, none, e1 .pop, eA (.goto 1173) 3 1714, none, none, e1 (.aload_n 1), e1 (.aload_n 0), e1 (.iload_n 3), eV (.iconst 1) 1 1, e1 .iadd, e1 .iaload, e1 (.aload_n 0), e1 (.iload_n 3), eV (.iconst 2) 1 2, e1 .iadd, e1 .iaload, eS (.invokevirtual 47) 114 2 27, none, none, e1 .pop, e1 (.aload_n 2), e1 (.aload_n 0), e1 (.iload_n 3), eV (.iconst 1) 1 1, e1 .iadd, e1 .iaload, e1 (.aload_n 0), e1 (.iload_n 3), eV (.iconst 2) 1 2, e1 .iadd, e1 .iaload, eS (.invokevirtual 50) 187 2 212, none, none, e1 .pop, eA (.goto 1140) 3 1714, none]
set_option maxRecDepth 100000 in
def cdL8 : Cd := [none, e1 (.aload_n 1), e1 (.aload_n 0), e1 (.iload_n 3), eV (.iconst 1) 1 1, e1 .iadd, e1 .iaload, e1 (.aload_n 0), e1 (.iload_n 3), eV (.iconst 2) 1 2, e1 .iadd, e1 .iaload, eS (.invokevirtual 51) 115 2 30, none, none, e1 .pop, e1 (.aload_n 2), e1 (.aload_n 0), e1 (.iload_n 3), eV (.iconst 1) 1 1, e1 .iadd, e1 .iaload, e1 (.aload_n 0), e1 (.iload_n 3), eV (.iconst 2) 1 2, e1 .iadd, e1 .iaload, eS (.invokevirtual 54) 189 2 215, none, none, e1 .pop, eA (.goto 1107) 3 1714, none, none, e1 (.aload_n 1), e1 (.aload_n 0), e1 (.iload_n 3), eV (.iconst 1) 1 1, e1 .iadd, e1 .iaload, eS (.invokevirtual 55) 116 1 37, none, none, e1 .pop, e1 (.aload_n 2), e1 (.aload_n 0), e1 (.iload_n 3), eV (.iconst 1) 1 1, e1 .iadd, e1 .iaload, eS (.invokevirtual 59) 193 1 218, none, none, e1 .pop, eA (.goto 1084) 3 1714, none, none, e1 (.aload_n 1), eS (.invokevirtual 60) 117 0 54, none, none, e1 .pop, e1 (.aload_n 2), eS (.invokevirtual 64) 194 0 222, none, none, e1 .pop, eA (.goto 1071) 3 1714, none, none, e1 (.aload_n 1), eS (.invokevirtual 65) 118 0 56]
set_option maxRecDepth 100000 in
def cdL9 : Cd := [none, none, e1 .pop, e1 (.aload_n 2), eS (.invokevirtual 68) 195 0 223, none, none, e1 .pop, eA (.goto 1058) 3 1714, none, none, e1 (.aload_n 1), e1 (.aload_n 0), e1 (.iload_n 3), eV (.iconst 1) 1 1, e1 .iadd, e1 .iaload, e1 (.aload_n 0), e1 (.iload_n 3), eV (.iconst 2) 1 2, e1 .iadd, e1 .iaload, e1 (.aload_n 0), e1 (.iload_n 3), eV (.iconst 3) 1 3, e1 .iadd, e1 .iaload, e1 (.aload_n 0), e1 (.iload_n 3), eV (.iconst 4) 1 4, e1 .iadd, e1 .iaload, eS (.invokevirtual 69) 119 4 57, none, none, e1 .pop, e1 (.aload_n 2), e1 (.aload_n 0), e1 (.iload_n 3), eV (.iconst 1) 1 1, e1 .iadd, e1 .iaload, e1 (.aload_n 0), e1 (.iload_n 3), eV (.iconst 2) 1 2, e1 .iadd, e1 .iaload, e1 (.aload_n 0), e1 (.iload_n 3), eV (.iconst 3) 1 3, e1 .iadd, e1 .iaload, e1 (.aload_n 0), e1 (.iload_n 3), eV (.iconst 4) 1 4, e1 .iadd, e1 .iaload, eS (.invokevirtual 73) 197 4 224, none, none, e1 .pop, eA (.goto 1005) 3 1714, none, none, e1 (.aload_n 1), e1 (.aload_n 0), e1 (.iload_n 3), eV (.iconst 1) 1 1, e1 .iadd, e1 .iaload, e1 (.aload_n 0), e1 (.iload_n 3)]
set_option maxRecDepth 100000 in
def cdL10 : Cd := [eV (.iconst 2) 1 2, e1 .iadd, e1 .iaload, eS (.invokevirtual 74) 120 2 60, none, none, e1 .pop, e1 (.aload_n 2), e1 (.aload_n 0), e1 (.iload_n 3), eV (.iconst 1) 1 1, e1 .iadd, e1 .iaload, e1 (.aload_n 0), e1 (.iload_n 3), eV (.iconst 2) 1 2, e1 .iadd, e1 .iaload, eS (.invokevirtual 77) 198 2 226, none, none, e1 .pop, eA (.goto 972) 3 1714, none, none, e1 (.aload_n 1), e1 (.aload_n 0), e1 (.iload_n 3), eV (.iconst 1) 1 1, e1 .iadd, e1 .iaload, e1 (.aload_n 0), e1 (.iload_n 3), eV (.iconst 2) 1 2, e1 .iadd, e1 .iaload, eS (.invokevirtual 78) 121 2 61, none, none, e1 .pop, e1 (.aload_n 2), e1 (.aload_n 0), e1 (.iload_n 3), eV (.iconst 1) 1 1, e1 .iadd, e1 .iaload, e1 (.aload_n 0), e1 (.iload_n 3), eV (.iconst 2) 1 2, e1 .iadd, e1 .iaload, eS (.invokevirtual 81) 199 2 228, none, none, e1 .pop, eA (.goto 939) 3 1714, none, none, e1 (.aload_n 1), e1 (.aload_n 0), e1 (.iload_n 3), eV (.iconst 1) 1 1, e1 .iadd, e1 .iaload, e1 (.aload_n 0), e1 (.iload_n 3), eV (.iconst 2) 1 2, e1 .iadd, e1 .iaload, eS (.invokevirtual 82) 122 2 63, none, none]
set_option maxRecDepth 100000 in
def cdL11 : Cd := [e1 .pop, e1 (.aload_n 2), e1 (.aload_n 0), e1 (.iload_n 3), eV (.iconst 1) 1 1, e1 .iadd, e1 .iaload, e1 (.aload_n 0), e1 (.iload_n 3), eV (.iconst 2) 1 2, e1 .iadd, e1 .iaload, eS (.invokevirtual 85) 200 2 229, none, none, e1 .pop, eA (.goto 906) 3 1714, none, none, e1 (.aload_n 1), e1 (.aload_n 0), e1 (.iload_n 3), eV (.iconst 1) 1 1, e1 .iadd, e1 .iaload, eS (.invokevirtual 86) 123 1 66, none, none, e1 .pop, e1 (.aload_n 2), e1 (.aload_n 0), e1 (.iload_n 3), eV (.iconst 1) 1 1, e1 .iadd, e1 .iaload, eS (.invokevirtual 89) 201 1 230, none, none, e1 .pop, eA (.goto 883) 3 1714, none, none, e1 (.aload_n 1), e1 (.aload_n 0), e1 (.iload_n 3), eV (.iconst 1) 1 1, e1 .iadd, e1 .iaload, e1 (.aload_n 0), e1 (.iload_n 3), eV (.iconst 2) 1 2, e1 .iadd, e1 .iaload, eS (.invokevirtual 90) 124 2 67, none, none, e1 .pop, e1 (.aload_n 2), e1 (.aload_n 0), e1 (.iload_n 3), eV (.iconst 1) 1 1, e1 .iadd, e1 .iaload, e1 (.aload_n 0), e1 (.iload_n 3), eV (.iconst 2) 1 2, e1 .iadd, e1 .iaload, eS (.invokevirtual 93) 202 2 231, none, none, e1 .pop]
set_option maxRecDepth 100000 in
def cdL12 : Cd := [eA (.goto 850) 3 1714, none, none, e1 (.aload_n 1), e1 (.aload_n 0), e1 (.iload_n 3), eV (.iconst 1) 1 1, e1 .iadd, e1 .iaload, eS (.invokevirtual 94) 125 1 70, none, none, e1 (.aload_n 2), e1 (.aload_n 0), e1 (.iload_n 3), eV (.iconst 1) 1 1, e1 .iadd, e1 .iaload, eS (.invokevirtual 97) 203 1 232, none, none, eA (.if_icmp .eq 829) 3 1714, none, none, e1 (.iconst 0), e1 .ireturn, e1 (.aload_n 1), e1 (.aload_n 0), e1 (.iload_n 3), eV (.iconst 1) 1 1, e1 .iadd, e1 .iaload, eS (.invokevirtual 98) 126 1 71, none, none, e1 .pop, e1 (.aload_n 2), e1 (.aload_n 0), e1 (.iload_n 3), eV (.iconst 1) 1 1, e1 .iadd, e1 .iaload, eS (.invokevirtual 101) 204 1 233, none, none, e1 .pop, eA (.goto 804) 3 1714, none, none, e1 (.aload_n 1), e1 (.aload_n 0), e1 (.iload_n 3), eV (.iconst 1) 1 1, e1 .iadd, e1 .iaload, eS (.invokevirtual 102) 127 1 72, none, none, e1 .pop, e1 (.aload_n 2), e1 (.aload_n 0), e1 (.iload_n 3), eV (.iconst 1) 1 1, e1 .iadd, e1 .iaload, eS (.invokevirtual 105) 206 1 234, none, none, e1 .pop, eA (.goto 781) 3 1714, none, none]
set_option maxRecDepth 100000 in
def cdL13 : Cd := [e1 (.aload_n 1), e1 (.aload_n 0), e1 (.iload_n 3), eV (.iconst 1) 1 1, e1 .iadd, e1 .iaload, e1 (.aload_n 0), e1 (.iload_n 3), eV (.iconst 2) 1 2, e1 .iadd, e1 .iaload, e1 (.aload_n 0), e1 (.iload_n 3), eV (.iconst 3) 1 3, e1 .iadd, e1 .iaload, eS (.invokevirtual 106) 128 3 82, none, none, e1 .pop, e1 (.aload_n 2), e1 (.aload_n 0), e1 (.iload_n 3), eV (.iconst 1) 1 1, e1 .iadd, e1 .iaload, e1 (.aload_n 0), e1 (.iload_n 3), eV (.iconst 2) 1 2, e1 .iadd, e1 .iaload, e1 (.aload_n 0), e1 (.iload_n 3), eV (.iconst 3) 1 3, e1 .iadd, e1 .iaload, eS (.invokevirtual 109) 207 3 236, none, none, e1 .pop, eA (.goto 738) 3 1714, none, none, e1 (.aload_n 1), e1 (.aload_n 0), e1 (.iload_n 3), eV (.iconst 1) 1 1, e1 .iadd, e1 .iaload, eS (.invokevirtual 110) 129 1 86, none, none, e1 .pop, e1 (.aload_n 2), e1 (.aload_n 0), e1 (.iload_n 3), eV (.iconst 1) 1 1, e1 .iadd, e1 .iaload, eS (.invokevirtual 113) 208 1 237, none, none, e1 .pop, eA (.goto 715) 3 1714, none, none, e1 (.aload_n 1), e1 (.aload_n 0), e1 (.iload_n 3), eV (.iconst 1) 1 1, e1 .iadd, e1 .iaload]
set_option maxRecDepth 100000 in
def cdL14 : Cd := [eS (.invokevirtual 114) 130 1 88, none, none, e1 .pop, e1 (.aload_n 2), e1 (.aload_n 0), e1 (.iload_n 3), eV (.iconst 1) 1 1, e1 .iadd, e1 .iaload, eS (.invokevirtual 117) 225 1 238, none, none, e1 .pop, eA (.goto 692) 3 1714, none, none, e1 (.aload_n 1), e1 (.aload_n 0), e1 (.iload_n 3), eV (.iconst 1) 1 1, e1 .iadd, e1 .iaload, e1 (.aload_n 0), e1 (.iload_n 3), eV (.iconst 2) 1 2, e1 .iadd, e1 .iaload, eS (.invokevirtual 118) 131 2 119, none, none, e1 .pop, e1 (.aload_n 2), e1 (.aload_n 0), e1 (.iload_n 3), eV (.iconst 1) 1 1, e1 .iadd, e1 .iaload, e1 (.aload_n 0), e1 (.iload_n 3), eV (.iconst 2) 1 2, e1 .iadd, e1 .iaload, eS (.invokevirtual 121) 226 2 256, none, none, e1 .pop, eA (.goto 659) 3 1714, none, none, e1 (.aload_n 1), e1 (.aload_n 0), e1 (.iload_n 3), eV (.iconst 1) 1 1, e1 .iadd, e1 .iaload, eS (.invokevirtual 122) 132 1 120, none, none, e1 .pop, e1 (.aload_n 2), e1 (.aload_n 0), e1 (.iload_n 3), eV (.iconst 1) 1 1, e1 .iadd, e1 .iaload, eS (.invokevirtual 125) 228 1 258, none, none, e1 .pop, eA (.goto 636) 3 1714, none]
set_option maxRecDepth 100000 in
def cdL15 : Cd := [none, e1 (.aload_n 1), e1 (.aload_n 0), e1 (.iload_n 3), eV (.iconst 1) 1 1, e1 .iadd, e1 .iaload, e1 (.aload_n 0), e1 (.iload_n 3), eV (.iconst 2) 1 2, e1 .iadd, e1 .iaload, e1 (.aload_n 0), e1 (.iload_n 3), eV (.iconst 3) 1 3, e1 .iadd, e1 .iaload, e1 (.aload_n 0), e1 (.iload_n 3), eV (.iconst 4) 1 4, e1 .iadd, e1 .iaload, eS (.invokevirtual 126) 133 4 122, none, none, e1 .pop, e1 (.aload_n 2), e1 (.aload_n 0), e1 (.iload_n 3), eV (.iconst 1) 1 1, e1 .iadd, e1 .iaload, e1 (.aload_n 0), e1 (.iload_n 3), eV (.iconst 2) 1 2, e1 .iadd, e1 .iaload, e1 (.aload_n 0), e1 (.iload_n 3), eV (.iconst 3) 1 3, e1 .iadd, e1 .iaload, e1 (.aload_n 0), e1 (.iload_n 3), eV (.iconst 4) 1 4, e1 .iadd, e1 .iaload, eS (.invokevirtual 129) 232 4 260, none, none, e1 .pop, eA (.goto 583) 3 1714, none, none, e1 (.aload_n 1), e1 (.aload_n 0), e1 (.iload_n 3), eV (.iconst 1) 1 1, e1 .iadd, e1 .iaload, eS (.invokevirtual 130) 134 1 132, none, none, e1 .pop, e1 (.aload_n 2), e1 (.aload_n 0), e1 (.iload_n 3), eV (.iconst 1) 1 1, e1 .iadd, e1 .iaload, eS (.invokevirtual 133) 234 1 265, none]
set_option maxRecDepth 100000 in
def cdL16 : Cd := [none, e1 .pop, eA (.goto 560) 3 1714, none, none, e1 (.aload_n 1), e1 (.aload_n 0), e1 (.iload_n 3), eV (.iconst 1) 1 1, e1 .iadd, e1 .iaload, e1 (.aload_n 0), e1 (.iload_n 3), eV (.iconst 2) 1 2, e1 .iadd, e1 .iaload, eS (.invokevirtual 134) 135 2 136, none, none, e1 .pop, e1 (.aload_n 2), e1 (.aload_n 0), e1 (.iload_n 3), eV (.iconst 1) 1 1, e1 .iadd, e1 .iaload, e1 (.aload_n 0), e1 (.iload_n 3), eV (.iconst 2) 1 2, e1 .iadd, e1 .iaload, eS (.invokevirtual 137) 235 2 268, none, none, e1 .pop, eA (.goto 527) 3 1714, none, none, e1 (.aload_n 1), e1 (.aload_n 0), e1 (.iload_n 3), eV (.iconst 1) 1 1, e1 .iadd, e1 .iaload, eS (.invokevirtual 138) 136 1 137, none, none, e1 .pop, e1 (.aload_n 2), e1 (.aload_n 0), e1 (.iload_n 3), eV (.iconst 1) 1 1, e1 .iadd, e1 .iaload, eS (.invokevirtual 141) 237 1 269, none, none, e1 .pop, eA (.goto 504) 3 1714, none, none, e1 (.aload_n 1), e1 (.aload_n 0), e1 (.iload_n 3), eV (.iconst 1) 1 1, e1 .iadd, e1 .iaload, e1 (.aload_n 0), e1 (.iload_n 3), eV (.iconst 2) 1 2, e1 .iadd, e1 .iaload]
set_option maxRecDepth 100000 in
def cdL17 : Cd := [eS (.invokevirtual 142) 137 2 141, none, none, e1 .pop, e1 (.aload_n 2), e1 (.aload_n 0), e1 (.iload_n 3), eV (.iconst 1) 1 1, e1 .iadd, e1 .iaload, e1 (.aload_n 0), e1 (.iload_n 3), eV (.iconst 2) 1 2, e1 .iadd, e1 .iaload, eS (.invokevirtual 145) 238 2 272, none, none, e1 .pop, eA (.goto 471) 3 1714, none, none, e1 (.aload_n 1), e1 (.aload_n 0), e1 (.iload_n 3), eV (.iconst 1) 1 1, e1 .iadd, e1 .iaload, eS (.invokevirtual 146) 139 1 142, none, none, e1 .pop, e1 (.aload_n 2), e1 (.aload_n 0), e1 (.iload_n 3), eV (.iconst 1) 1 1, e1 .iadd, e1 .iaload, eS (.invokevirtual 149) 240 1 273, none, none, e1 .pop, eA (.goto 448) 3 1714, none, none, e1 (.aload_n 1), e1 (.aload_n 0), e1 (.iload_n 3), eV (.iconst 1) 1 1, e1 .iadd, e1 .iaload, e1 (.aload_n 0), e1 (.iload_n 3), eV (.iconst 2) 1 2, e1 .iadd, e1 .iaload, eS (.invokevirtual 150) 140 2 143, none, none, e1 .pop, e1 (.aload_n 2), e1 (.aload_n 0), e1 (.iload_n 3), eV (.iconst 1) 1 1, e1 .iadd, e1 .iaload, e1 (.aload_n 0), e1 (.iload_n 3), eV (.iconst 2) 1 2, e1 .iadd, e1 .iaload, eS (.invokevirtual 153) 241 2 275]
set_option maxRecDepth 100000 in
def cdL18 : Cd := [none, none, e1 .pop, eA (.goto 415) 3 1714, none, none, e1 (.aload_n 1), e1 (.aload_n 0), e1 (.iload_n 3), eV (.iconst 1) 1 1, e1 .iadd, e1 .iaload, e1 (.aload_n 0), e1 (.iload_n 3), eV (.iconst 2) 1 2, e1 .iadd, e1 .iaload, eS (.invokevirtual 154) 141 2 144, none, none, e1 .pop, e1 (.aload_n 2), e1 (.aload_n 0), e1 (.iload_n 3), eV (.iconst 1) 1 1, e1 .iadd, e1 .iaload, e1 (.aload_n 0), e1 (.iload_n 3), eV (.iconst 2) 1 2, e1 .iadd, e1 .iaload, eS (.invokevirtual 157) 243 2 276, none, none, e1 .pop, eA (.goto 382) 3 1714, none, none, e1 (.aload_n 1), e1 (.aload_n 0), e1 (.iload_n 3), eV (.iconst 1) 1 1, e1 .iadd, e1 .iaload, eS (.invokevirtual 158) 142 1 147, none, none, e1 .pop, e1 (.aload_n 2), e1 (.aload_n 0), e1 (.iload_n 3), eV (.iconst 1) 1 1, e1 .iadd, e1 .iaload, eS (.invokevirtual 161) 248 1 278, none, none, e1 .pop, eA (.goto 359) 3 1714, none, none, e1 (.aload_n 1), e1 (.aload_n 0), e1 (.iload_n 3), eV (.iconst 1) 1 1, e1 .iadd, e1 .iaload, eS (.invokevirtual 162) 143 1 164, none, none, e1 .pop]
set_option maxRecDepth 100000 in
def cdL19 : Cd := [e1 (.aload_n 2), e1 (.aload_n 0), e1 (.iload_n 3), eV (.iconst 1) 1 1, e1 .iadd, e1 .iaload, eS (.invokevirtual 165) 249 1 283, none, none, e1 .pop, eA (.goto 336) 3 1714, none, none, e1 (.aload_n 1), e1 (.aload_n 0), e1 (.iload_n 3), eV (.iconst 1) 1 1, e1 .iadd, e1 .iaload, eS (.invokevirtual 166) 144 1 165, none, none, e1 .pop, e1 (.aload_n 2), e1 (.aload_n 0), e1 (.iload_n 3), eV (.iconst 1) 1 1, e1 .iadd, e1 .iaload, eS (.invokevirtual 169) 250 1 284, none, none, e1 .pop, eA (.goto 313) 3 1714, none, none, e1 (.aload_n 1), e1 (.aload_n 0), e1 (.iload_n 3), eV (.iconst 1) 1 1, e1 .iadd, e1 .iaload, e1 (.aload_n 0), e1 (.iload_n 3), eV (.iconst 2) 1 2, e1 .iadd, e1 .iaload, e1 (.aload_n 0), e1 (.iload_n 3), eV (.iconst 3) 1 3, e1 .iadd, e1 .iaload, eS (.invokevirtual 170) 145 3 168, none, none, e1 .pop, e1 (.aload_n 2), e1 (.aload_n 0), e1 (.iload_n 3), eV (.iconst 1) 1 1, e1 .iadd, e1 .iaload, e1 (.aload_n 0), e1 (.iload_n 3), eV (.iconst 2) 1 2, e1 .iadd, e1 .iaload, e1 (.aload_n 0), e1 (.iload_n 3), eV (.iconst 3) 1 3, e1 .iadd, e1 .iaload]
set_option maxRecDepth 100000 in
def cdL20 : Cd := [eS (.invokevirtual 173) 253 3 285, none, none, e1 .pop, eA (.goto 270) 3 1714, none, none, e1 (.aload_n 1), e1 (.aload_n 0), e1 (.iload_n 3), eV (.iconst 1) 1 1, e1 .iadd, e1 .iaload, e1 (.aload_n 0), e1 (.iload_n 3), eV (.iconst 2) 1 2, e1 .iadd, e1 .iaload, e1 (.aload_n 0), e1 (.iload_n 3), eV (.iconst 3) 1 3, e1 .iadd, e1 .iaload, eS (.invokevirtual 174) 146 3 171, none, none, e1 .pop, e1 (.aload_n 2), e1 (.aload_n 0), e1 (.iload_n 3), eV (.iconst 1) 1 1, e1 .iadd, e1 .iaload, e1 (.aload_n 0), e1 (.iload_n 3), eV (.iconst 2) 1 2, e1 .iadd, e1 .iaload, e1 (.aload_n 0), e1 (.iload_n 3), eV (.iconst 3) 1 3, e1 .iadd, e1 .iaload, eS (.invokevirtual 177) 255 3 287, none, none, e1 .pop, eA (.goto 227) 3 1714, none, none, e1 (.aload_n 1), e1 (.aload_n 0), e1 (.iload_n 3), eV (.iconst 1) 1 1, e1 .iadd, e1 .iaload, e1 (.aload_n 0), e1 (.iload_n 3), eV (.iconst 2) 1 2, e1 .iadd, e1 .iaload, e1 (.aload_n 0), e1 (.iload_n 3), eV (.iconst 3) 1 3, e1 .iadd, e1 .iaload, eS (.invokevirtual 178) 147 3 175, none, none, e1 .pop, e1 (.aload_n 2), e1 (.aload_n 0)]
set_option maxRecDepth 100000 in
def cdL21 : Cd := [e1 (.iload_n 3), eV (.iconst 1) 1 1, e1 .iadd, e1 .iaload, e1 (.aload_n 0), e1 (.iload_n 3), eV (.iconst 2) 1 2, e1 .iadd, e1 .iaload, e1 (.aload_n 0), e1 (.iload_n 3), eV (.iconst 3) 1 3, e1 .iadd, e1 .iaload, eS (.invokevirtual 181) 256 3 290, none, none, e1 .pop, eA (.goto 184) 3 1714, none, none, e1 (.aload_n 1), e1 (.aload_n 0), e1 (.iload_n 3), eV (.iconst 1) 1 1, e1 .iadd, e1 .iaload, e1 (.aload_n 0), e1 (.iload_n 3), eV (.iconst 2) 1 2, e1 .iadd, e1 .iaload, e1 (.aload_n 0), e1 (.iload_n 3), eV (.iconst 3) 1 3, e1 .iadd, e1 .iaload, e1 (.aload_n 0), e1 (.iload_n 3), eV (.iconst 4) 1 4, e1 .iadd, e1 .iaload, e1 (.aload_n 0), e1 (.iload_n 3), eV (.iconst 5) 1 5, e1 .iadd, e1 .iaload, eS (.invokevirtual 182) 148 5 176, none, none, e1 .pop, e1 (.aload_n 2), e1 (.aload_n 0), e1 (.iload_n 3), eV (.iconst 1) 1 1, e1 .iadd, e1 .iaload, e1 (.aload_n 0), e1 (.iload_n 3), eV (.iconst 2) 1 2, e1 .iadd, e1 .iaload, e1 (.aload_n 0), e1 (.iload_n 3), eV (.iconst 3) 1 3, e1 .iadd, e1 .iaload, e1 (.aload_n 0), e1 (.iload_n 3), eV (.iconst 4) 1 4, e1 .iadd, e1 .iaload]
set_option maxRecDepth 100000 in
def cdL22 : Cd := [e1 (.aload_n 0), e1 (.iload_n 3), eV (.iconst 5) 1 5, e1 .iadd, e1 .iaload, eS (.invokevirtual 186) 257 5 291, none, none, e1 .pop, eA (.goto 121) 3 1714, none, none, e1 (.aload_n 1), e1 (.aload_n 0), e1 (.iload_n 3), eV (.iconst 1) 1 1, e1 .iadd, e1 .iaload, eS (.invokevirtual 187) 149 1 179, none, none, e1 .pop, e1 (.aload_n 2), e1 (.aload_n 0), e1 (.iload_n 3), eV (.iconst 1) 1 1, e1 .iadd, e1 .iaload, eS (.invokevirtual 190) 258 1 292, none, none, e1 .pop, eA (.goto 98) 3 1714, none, none, e1 (.aload_n 1), e1 (.aload_n 0), e1 (.iload_n 3), eV (.iconst 1) 1 1, e1 .iadd, e1 .iaload, eS (.invokevirtual 191) 150 1 181, none, none, e1 .pop, e1 (.aload_n 2), e1 (.aload_n 0), e1 (.iload_n 3), eV (.iconst 1) 1 1, e1 .iadd, e1 .iaload, eS (.invokevirtual 194) 259 1 293, none, none, e1 .pop, eA (.goto 75) 3 1714, none, none, e1 (.aload_n 1), e1 (.aload_n 0), e1 (.iload_n 3), eV (.iconst 1) 1 1, e1 .iadd, e1 .iaload, eS (.invokevirtual 195) 151 1 182, none, none, e1 .pop, e1 (.aload_n 2), e1 (.aload_n 0), e1 (.iload_n 3), eV (.iconst 1) 1 1]
set_option maxRecDepth 100000 in
def cdL23 : Cd := [e1 .iadd, e1 .iaload, eS (.invokevirtual 198) 261 1 294, none, none, e1 .pop, eA (.goto 52) 3 1714, none, none, e1 (.aload_n 1), eS (.invokevirtual 199) 153 0 188, none, none, e1 .pop, e1 (.aload_n 2), eS (.invokevirtual 202) 262 0 296, none, none, e1 .pop, eA (.goto 39) 3 1714, none, none, e1 (.aload_n 1), eS (.invokevirtual 203) 154 0 189, none, none, e1 .pop, e1 (.aload_n 2), eS (.invokevirtual 206) 263 0 297, none, none, e1 .pop, eA (.goto 26) 3 1714, none, none, e1 (.aload_n 1), e1 (.aload_n 0), e1 (.iload_n 3), eV (.iconst 1) 1 1, e1 .iadd, e1 .iaload, eS (.invokevirtual 207) 155 1 190, none, none, e1 .pop, e1 (.aload_n 2), e1 (.aload_n 0), e1 (.iload_n 3), eV (.iconst 1) 1 1, e1 .iadd, e1 .iaload, eS (.invokevirtual 210) 264 1 298, none, none, e1 .pop, eA (.goto 3) 3 1714, none, none, eV (.iinc 3 6) 3 6, none, none, eA (.goto (-1699)) 3 18, none, none, eV (.iconst 1) 1 1, e1 .ireturn]
def cdL : Cd := cdL0 ++ (cdL1 ++ (cdL2 ++ (cdL3 ++ (cdL4 ++ (cdL5 ++ (cdL6 ++ (cdL7 ++ (cdL8 ++ (cdL9 ++ (cdL10 ++ (cdL11 ++ (cdL12 ++ (cdL13 ++ (cdL14 ++ (cdL15 ++ (cdL16 ++ (cdL17 ++ (cdL18 ++ (cdL19 ++ (cdL20 ++ (cdL21 ++ (cdL22 ++ (cdL23)))))))))))))))))))))))
/-- the constructors, by class: the place of the return stands first among the numbers -/
def psK : List Mi := [(⟨RX0, "<init>", "(LPrisonShops$Rules;)V"⟩, prog_2_method_1_code, 2, none, 0, cdk0, (9, 1, (1, 127), (1, 126), (0, 0), (1, 7))),
  (⟨RX1, "<init>", "()V"⟩, prog_3_method_1_code, 1, none, 1, cdk1, (97, 0, (1, 159), (1, 158), (0, 0), (1, 9))),
  (⟨RX2, "<init>", "()V"⟩, prog_4_method_1_code, 1, none, 2, cdk2, (38, 0, (1, 137), (1, 136), (0, 0), (1, 8))),
  (⟨RX3, "<init>", "()V"⟩, prog_5_method_1_code, 1, none, 3, cdk3, (17, 0, (1, 110), (1, 109), (0, 0), (1, 6))),
  (⟨RX4, "<init>", "(LPrisonShops$Tape;)V"⟩, prog_6_method_1_code, 2, none, 4, cdk4, (76, 1, (1, 218), (1, 217), (0, 0), (1, 11))),
  (⟨RX5, "<init>", "()V"⟩, prog_7_method_1_code, 1, none, 5, cdk5, (15, 0, (1, 104), (1, 103), (0, 0), (1, 5))),
  (⟨RX6, "<init>", "()V"⟩, prog_8_method_1_code, 1, none, 6, cdk6, (42, 0, (2, 23), (2, 22), (0, 0), (1, 12))),
  (⟨RX7, "<init>", "()V"⟩, prog_9_method_1_code, 1, none, 7, cdk7, (87, 0, (1, 33), (1, 32), (0, 0), (1, 2))),
  (⟨RX8, "<init>", "(II)V"⟩, prog_10_method_1_code, 3, none, 8, cdk8, (42, 2, (1, 39), (1, 38), (0, 0), (1, 3))),
  (⟨RX9, "<init>", "()V"⟩, prog_11_method_1_code, 1, none, 9, cdk9, (17, 0, (1, 205), (1, 204), (0, 0), (1, 10))),
  (⟨RX10, "<init>", "()V"⟩, prog_1_method_1_code, 1, none, 10, cdk10, (140, 0, (1, 25), (1, 24), (0, 0), (1, 1))),
  (⟨RX11, "<init>", "()V"⟩, prog_13_method_1_code, 2, none, 11, cdk11, (169, 0, (5, 187), (5, 186), (0, 0), (1, 13)))]
def kcT : List (Nat × Nat × Nat × Nat × (Nat × Nat) × (Nat × Nat) × (Nat × Nat)) := [(13, 7, 10, 13, (1, 21), (1, 22), (1, 1)), (10, 9, 7, 7, (1, 29), (1, 30), (1, 2)), (7, 9, 8, 4, (1, 35), (1, 36), (1, 3)), (10, 22, 5, 1, (1, 100), (1, 101), (1, 5)), (5, 9, 3, 2, (1, 106), (1, 107), (1, 6)), (10, 29, 0, 1, (1, 123), (1, 124), (1, 7)), (10, 38, 2, 5, (1, 133), (1, 134), (1, 8)), (10, 45, 1, 13, (1, 155), (1, 156), (1, 9)), (10, 52, 9, 2, (1, 201), (1, 202), (1, 10)), (10, 59, 4, 12, (1, 214), (1, 215), (1, 11)), (4, 9, 3, 2, (1, 220), (1, 107), (1, 6)), (10, 68, 6, 3, (2, 19), (2, 20), (1, 12)), (13, 10, 11, 36, (5, 183), (5, 184), (1, 13))]
def kmT : List (Nat × Nat × Nat × Nat × Nat) := [(13, 9, 10, (1, 23)), (10, 3, 99, (1, 26)), (7, 3, 99, (1, 34)), (7, 11, 8, (1, 37)), (8, 3, 99, (1, 40)), (5, 3, 99, (1, 105)), (3, 3, 99, (1, 111)), (10, 31, 0, (1, 125)), (0, 3, 99, (1, 128)), (2, 3, 99, (1, 138)), (1, 3, 99, (1, 160)), (9, 3, 99, (1, 206)), (10, 61, 4, (1, 216)), (4, 3, 99, (1, 219)), (6, 3, 99, (2, 24)), (13, 12, 11, (5, 185)), (11, 1, 99, (5, 188))]
def nsT : List (Nat × Nat × Nat × String) := [(10, 11, 7, "PrisonShops"), (10, 24, 5, "PrisonShops"), (5, 11, 3, "PrisonShops"), (10, 40, 2, "PrisonShops"), (10, 47, 1, "PrisonShops"), (10, 54, 9, "PrisonShops"), (4, 11, 3, "PrisonShops"), (10, 70, 6, "PrisonShops")]
abbrev lbq8 : Nat × Nat := (1, 27)
abbrev lbq9 : Nat × Nat := (1, 28)
abbrev lbq10 : Nat × Nat := (1, 57)
abbrev lbq11 : Nat × Nat := (2, 35)
abbrev lbq12 : Nat × Nat := (6, 58)
abbrev lbq0 : Nat × Nat := (1, 42)
abbrev lbq1 : Nat × Nat := (2, 226)
abbrev lbq2 : Nat × Nat := (1, 4)
abbrev lbq3 : Nat × Nat := (3, 11)
abbrev lbq4 : Nat × Nat := (3, 10)
abbrev lbq5 : Nat × Nat := (1, 15)
abbrev lbq6 : Nat × Nat := (1, 43)
abbrev lbq7 : Nat × Nat := (2, 227)
def strT : List (Nat × String × Nat) := [(132, "pay", 1000), (134, "lost", 1001), (136, "victim", 1002), (138, "save", 1003), (140, "least", 1004), (142, "days", 1005), (144, "nkr", 1006), (146, "k", 1007), (148, "go", 1008), (150, "gt", 1009), (152, "g", 1010), (154, "wk", 1011)]
