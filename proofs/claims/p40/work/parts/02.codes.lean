def lwB (j : Nat) : List Jvm.Cond := if j = 0 then k2_sels lw_privs else if j = 1 then tables_1_1 else if j = 2 then tables_1_2 else if j = 3 then tables_1_3 else if j = 4 then tables_1_4 else if j = 5 then tables_1_5 else if j = 6 then tables_1_6 else if j = 7 then tables_1_7 else tables_1_8
abbrev En : Type := Instr × Nat × Nat × Nat × Int32 × Int64 × List (Int32 × Nat)
abbrev Cd : Type := List (Option En)
set_option maxRecDepth 100000 in
def cd0 : Cd := [some (.iconst 0, 1, 0, 0, 0, 0, []), some (.istore_n 2, 1, 0, 0, 0, 0, []), some (.iload_n 2, 1, 0, 0, 0, 0, []), some (.aload_n 1, 1, 0, 0, 0, 0, []), some (.getfield 15, 3, 7, 1, 1, 0, [(0, 10)]), none, none, 
  some (.invokevirtual 21, 3, 91, 0, 0, 0, [(0, 149)]), none, none, some (.if_icmp .ge 15, 3, 25, 0, 0, 0, []), none, none, some (.aload_n 0, 1, 0, 0, 0, 0, []), some (.aload_n 1, 1, 0, 0, 0, 0, []), 
  some (.iload_n 2, 1, 0, 0, 0, 0, []), some (.invokevirtual 27, 3, 1, 2, 0, 0, [(0, 150)]), none, none, some (.iinc 2 1, 3, 0, 0, 1, 0, []), none, none, some (.goto (-20), 3, 2, 0, 0, 0, []), none, none, 
  some (.iconst 0, 1, 0, 0, 0, 0, []), some (.istore_n 2, 1, 0, 0, 0, 0, []), some (.iload_n 2, 1, 0, 0, 0, 0, []), some (.aload_n 1, 1, 0, 0, 0, 0, []), some (.getfield 31, 3, 7, 0, 0, 0, [(0, 6)]), none, none, 
  some (.invokevirtual 21, 3, 91, 0, 0, 0, [(0, 149)]), none, none, some (.if_icmp .ge 39, 3, 74, 0, 0, 0, []), none, none, some (.aload_n 0, 1, 0, 0, 0, 0, []), some (.aload_n 1, 1, 0, 0, 0, 0, []), 
  some (.iload_n 2, 1, 0, 0, 0, 0, []), some (.invokevirtual 34, 3, 3, 2, 0, 0, [(0, 158)]), none, none, some (.aload_n 1, 1, 0, 0, 0, 0, []), some (.getfield 31, 3, 7, 0, 0, 0, [(0, 6)]), none, none, 
  some (.iload_n 2, 1, 0, 0, 0, 0, []), some (.iconst 4, 1, 0, 0, 4, 0, []), some (.iconst 0, 1, 0, 0, 0, 0, []), some (.aload_n 1, 1, 0, 0, 0, 0, []), some (.getfield 31, 3, 7, 0, 0, 0, [(0, 6)]), none, none, 
  some (.iload_n 2, 1, 0, 0, 0, 0, []), some (.iconst 4, 1, 0, 0, 4, 0, []), some (.invokevirtual 37, 3, 94, 2, 0, 0, [(0, 151)]), none, none, some (.iconst 1, 1, 0, 0, 1, 0, []), some (.isub, 1, 0, 0, 0, 0, []), 
  some (.invokestatic 41, 3, 1001, 2, 0, 0, [(0, 16)]), none, none, some (.invokevirtual 46, 3, 95, 3, 0, 0, [(0, 157)]), none, none, some (.iinc 2 1, 3, 0, 0, 1, 0, []), none, none, some (.goto (-44), 3, 27, 0, 0, 0, []), 
  none, none, some (.iconst 0, 1, 0, 0, 0, 0, []), some (.istore_n 2, 1, 0, 0, 0, 0, []), some (.iload_n 2, 1, 0, 0, 0, 0, []), some (.aload_n 1, 1, 0, 0, 0, 0, []), some (.getfield 15, 3, 7, 1, 1, 0, [(0, 10)]), none, 
  none, some (.invokevirtual 21, 3, 91, 0, 0, 0, [(0, 149)]), none, none, some (.if_icmp .ge 39, 3, 123, 0, 0, 0, []), none, none, some (.aload_n 1, 1, 0, 0, 0, 0, []), some (.iload_n 2, 1, 0, 0, 0, 0, []), 
  some (.invokevirtual 50, 3, 62, 1, 0, 0, [(0, 152)]), none, none, some (.ifCond .ne 25, 3, 117, 0, 0, 0, []), none, none, some (.aload_n 1, 1, 0, 0, 0, 0, []), some (.iload_n 2, 1, 0, 0, 0, 0, []), 
  some (.aload_n 1, 1, 0, 0, 0, 0, []), some (.getfield 54, 3, 7, 5, 5, 0, [(0, 25)]), none, none, some (.invokevirtual 58, 3, 86, 2, 0, 0, [(0, 160)]), none, none, some (.aload_n 1, 1, 0, 0, 0, 0, []), 
  some (.getfield 54, 3, 7, 5, 5, 0, [(0, 25)]), none, none, some (.if_icmp .gt 9, 3, 117, 0, 0, 0, []), none, none, some (.aload_n 0, 1, 0, 0, 0, 0, []), some (.aload_n 1, 1, 0, 0, 0, 0, []), 
  some (.iload_n 2, 1, 0, 0, 0, 0, []), some (.invokevirtual 61, 3, 4, 2, 0, 0, [(0, 161)]), none, none, some (.iinc 2 1, 3, 0, 0, 1, 0, []), none, none, some (.goto (-44), 3, 76, 0, 0, 0, []), none, none, 
  some (.aload_n 1, 1, 0, 0, 0, 0, []), some (.dup, 1, 0, 0, 0, 0, []), some (.getfield 54, 3, 7, 5, 5, 0, [(0, 25)]), none, none, some (.iconst 1, 1, 0, 0, 1, 0, []), some (.iadd, 1, 0, 0, 0, 0, []), 
  some (.putfield 54, 3, 7, 5, 5, 0, [(0, 25)]), none, none, some (.return_, 1, 0, 0, 0, 0, [])]
set_option maxRecDepth 100000 in
def cd1 : Cd := [some (.aload_n 1, 1, 0, 0, 0, 0, []), some (.getfield 15, 3, 7, 1, 1, 0, [(0, 10)]), none, none, some (.iload_n 2, 1, 0, 0, 0, 0, []), some (.bipush 8, 2, 0, 0, 8, 0, []), none, 
  some (.invokevirtual 37, 3, 94, 2, 0, 0, [(0, 151)]), none, none, some (.istore_n 3, 1, 0, 0, 0, 0, []), some (.iload_n 3, 1, 0, 0, 0, 0, []), some (.ldc 64, 2, 0, 0, -1000000005, 0, [(0, 15)]), none, 
  some (.if_icmp .eq 28, 3, 42, 0, 0, 0, []), none, none, some (.aload_n 1, 1, 0, 0, 0, 0, []), some (.iload_n 2, 1, 0, 0, 0, 0, []), some (.invokevirtual 50, 3, 62, 1, 0, 0, [(0, 152)]), none, none, 
  some (.ifCond .ne 20, 3, 42, 0, 0, 0, []), none, none, some (.aload_n 1, 1, 0, 0, 0, 0, []), some (.getfield 15, 3, 7, 1, 1, 0, [(0, 10)]), none, none, some (.iload_n 2, 1, 0, 0, 0, 0, []), 
  some (.bipush 9, 2, 0, 0, 9, 0, []), none, some (.invokevirtual 37, 3, 94, 2, 0, 0, [(0, 151)]), none, none, some (.aload_n 1, 1, 0, 0, 0, 0, []), some (.getfield 54, 3, 7, 5, 5, 0, [(0, 25)]), none, none, 
  some (.if_icmp .ne 4, 3, 43, 0, 0, 0, []), none, none, some (.return_, 1, 0, 0, 0, 0, []), some (.aload_n 1, 1, 0, 0, 0, 0, []), some (.getfield 15, 3, 7, 1, 1, 0, [(0, 10)]), none, none, 
  some (.iload_n 2, 1, 0, 0, 0, 0, []), some (.iconst 1, 1, 0, 0, 1, 0, []), some (.invokevirtual 37, 3, 94, 2, 0, 0, [(0, 151)]), none, none, some (.istore 4, 2, 0, 0, 0, 0, []), none, some (.aload_n 1, 1, 0, 0, 0, 0, []), 
  some (.getfield 31, 3, 7, 0, 0, 0, [(0, 6)]), none, none, some (.iload_n 3, 1, 0, 0, 0, 0, []), some (.iconst 4, 1, 0, 0, 4, 0, []), some (.invokevirtual 37, 3, 94, 2, 0, 0, [(0, 151)]), none, none, 
  some (.ifCond .le 24, 3, 87, 0, 0, 0, []), none, none, some (.aload_n 1, 1, 0, 0, 0, 0, []), some (.iload_n 2, 1, 0, 0, 0, 0, []), some (.bipush 10, 2, 0, 0, 10, 0, []), none, some (.aload_n 0, 1, 0, 0, 0, 0, []), 
  some (.getfield 9, 3, 0, 0, 0, 0, [(0, 34)]), none, none, some (.aload_n 1, 1, 0, 0, 0, 0, []), some (.iconst 1, 1, 0, 0, 1, 0, []), some (.iload 4, 2, 0, 0, 0, 0, []), none, some (.iconst 0, 1, 0, 0, 0, 0, []), 
  some (.iconst 0, 1, 0, 0, 0, 0, []), some (.invokevirtual 65, 3, 48, 5, 0, 0, [(0, 153)]), none, none, some (.invokevirtual 71, 3, 84, 3, 0, 0, [(0, 154)]), none, none, some (.return_, 1, 0, 0, 0, 0, []), 
  some (.aload_n 1, 1, 0, 0, 0, 0, []), some (.getfield 31, 3, 7, 0, 0, 0, [(0, 6)]), none, none, some (.iload_n 3, 1, 0, 0, 0, 0, []), some (.iconst 3, 1, 0, 0, 3, 0, []), 
  some (.invokevirtual 37, 3, 94, 2, 0, 0, [(0, 151)]), none, none, some (.iload 4, 2, 0, 0, 0, 0, []), none, some (.iadd, 1, 0, 0, 0, 0, []), some (.istore 5, 2, 0, 0, 0, 0, []), none, some (.aload_n 1, 1, 0, 0, 0, 0, []), 
  some (.getfield 15, 3, 7, 1, 1, 0, [(0, 10)]), none, none, some (.iload_n 2, 1, 0, 0, 0, 0, []), some (.iconst 0, 1, 0, 0, 0, 0, []), some (.invokevirtual 37, 3, 94, 2, 0, 0, [(0, 151)]), none, none, 
  some (.istore 6, 2, 0, 0, 0, 0, []), none, some (.aload_n 1, 1, 0, 0, 0, 0, []), some (.iload_n 2, 1, 0, 0, 0, 0, []), some (.bipush 10, 2, 0, 0, 10, 0, []), none, some (.aload_n 0, 1, 0, 0, 0, 0, []), 
  some (.getfield 9, 3, 0, 0, 0, 0, [(0, 34)]), none, none, some (.aload_n 1, 1, 0, 0, 0, 0, []), some (.iconst 0, 1, 0, 0, 0, 0, []), some (.iload 5, 2, 0, 0, 0, 0, []), none, some (.iload 4, 2, 0, 0, 0, 0, []), none, 
  some (.iload 6, 2, 0, 0, 0, 0, []), none, some (.invokevirtual 65, 3, 48, 5, 0, 0, [(0, 153)]), none, none, some (.invokevirtual 71, 3, 84, 3, 0, 0, [(0, 154)]), none, none, some (.aload_n 1, 1, 0, 0, 0, 0, []), 
  some (.getfield 31, 3, 7, 0, 0, 0, [(0, 6)]), none, none, some (.iload_n 3, 1, 0, 0, 0, 0, []), some (.bipush 6, 2, 0, 0, 6, 0, []), none, some (.iload 5, 2, 0, 0, 0, 0, []), none, 
  some (.invokevirtual 74, 3, 97, 3, 0, 0, [(0, 155)]), none, none, some (.aload_n 1, 1, 0, 0, 0, 0, []), some (.getfield 15, 3, 7, 1, 1, 0, [(0, 10)]), none, none, some (.iload_n 2, 1, 0, 0, 0, 0, []), 
  some (.bipush 6, 2, 0, 0, 6, 0, []), none, some (.iconst 1, 1, 0, 0, 1, 0, []), some (.invokevirtual 74, 3, 97, 3, 0, 0, [(0, 155)]), none, none, some (.aload_n 0, 1, 0, 0, 0, 0, []), some (.aload_n 1, 1, 0, 0, 0, 0, []), 
  some (.iload_n 2, 1, 0, 0, 0, 0, []), some (.invokevirtual 77, 3, 2, 2, 0, 0, [(0, 156)]), none, none, some (.return_, 1, 0, 0, 0, 0, [])]
set_option maxRecDepth 100000 in
def cd2 : Cd := [some (.aload_n 1, 1, 0, 0, 0, 0, []), some (.getfield 15, 3, 7, 1, 1, 0, [(0, 10)]), none, none, some (.iload_n 2, 1, 0, 0, 0, 0, []), some (.bipush 7, 2, 0, 0, 7, 0, []), none, 
  some (.invokevirtual 37, 3, 94, 2, 0, 0, [(0, 151)]), none, none, some (.iconst 1, 1, 0, 0, 1, 0, []), some (.iadd, 1, 0, 0, 0, 0, []), some (.istore_n 3, 1, 0, 0, 0, 0, []), some (.iload_n 3, 1, 0, 0, 0, 0, []), 
  some (.bipush 10, 2, 0, 0, 10, 0, []), none, some (.if_icmp .ne 29, 3, 45, 0, 0, 0, []), none, none, some (.iconst 0, 1, 0, 0, 0, 0, []), some (.istore_n 3, 1, 0, 0, 0, 0, []), some (.aload_n 1, 1, 0, 0, 0, 0, []), 
  some (.getfield 15, 3, 7, 1, 1, 0, [(0, 10)]), none, none, some (.iload_n 2, 1, 0, 0, 0, 0, []), some (.iconst 1, 1, 0, 0, 1, 0, []), some (.iconst 3, 1, 0, 0, 3, 0, []), some (.aload_n 1, 1, 0, 0, 0, 0, []), 
  some (.getfield 15, 3, 7, 1, 1, 0, [(0, 10)]), none, none, some (.iload_n 2, 1, 0, 0, 0, 0, []), some (.iconst 1, 1, 0, 0, 1, 0, []), some (.invokevirtual 37, 3, 94, 2, 0, 0, [(0, 151)]), none, none, 
  some (.iconst 1, 1, 0, 0, 1, 0, []), some (.iadd, 1, 0, 0, 0, 0, []), some (.invokestatic 80, 3, 1002, 2, 0, 0, [(0, 15)]), none, none, some (.invokevirtual 46, 3, 95, 3, 0, 0, [(0, 157)]), none, none, 
  some (.aload_n 1, 1, 0, 0, 0, 0, []), some (.getfield 15, 3, 7, 1, 1, 0, [(0, 10)]), none, none, some (.iload_n 2, 1, 0, 0, 0, 0, []), some (.bipush 7, 2, 0, 0, 7, 0, []), none, some (.iload_n 3, 1, 0, 0, 0, 0, []), 
  some (.invokevirtual 46, 3, 95, 3, 0, 0, [(0, 157)]), none, none, some (.return_, 1, 0, 0, 0, 0, [])]
set_option maxRecDepth 100000 in
def cd3 : Cd := [some (.iconst 0, 1, 0, 0, 0, 0, []), some (.istore_n 3, 1, 0, 0, 0, 0, []), some (.iload_n 3, 1, 0, 0, 0, 0, []), some (.bipush 30, 2, 0, 0, 30, 0, []), none, some (.if_icmp .ge 82, 3, 87, 0, 0, 0, []), none, none, 
  some (.aload_n 1, 1, 0, 0, 0, 0, []), some (.iload_n 2, 1, 0, 0, 0, 0, []), some (.ldc 64, 2, 0, 0, -1000000005, 0, [(0, 15)]), none, some (.invokevirtual 83, 3, 81, 2, 0, 0, [(0, 159)]), none, none, 
  some (.istore 4, 2, 0, 0, 0, 0, []), none, some (.iload 4, 2, 0, 0, 0, 0, []), none, some (.ldc 64, 2, 0, 0, -1000000005, 0, [(0, 15)]), none, some (.if_icmp .ne 4, 3, 25, 0, 0, 0, []), none, none, 
  some (.return_, 1, 0, 0, 0, 0, []), some (.aload_n 1, 1, 0, 0, 0, 0, []), some (.getfield 86, 3, 7, 2, 2, 0, [(0, 17)]), none, none, some (.iload 4, 2, 0, 0, 0, 0, []), none, some (.iconst 2, 1, 0, 0, 2, 0, []), 
  some (.invokevirtual 37, 3, 94, 2, 0, 0, [(0, 151)]), none, none, some (.istore 5, 2, 0, 0, 0, 0, []), none, some (.aload_n 1, 1, 0, 0, 0, 0, []), some (.getfield 31, 3, 7, 0, 0, 0, [(0, 6)]), none, none, 
  some (.iload_n 2, 1, 0, 0, 0, 0, []), some (.bipush 6, 2, 0, 0, 6, 0, []), none, some (.invokevirtual 37, 3, 94, 2, 0, 0, [(0, 151)]), none, none, some (.iload 5, 2, 0, 0, 0, 0, []), none, 
  some (.if_icmp .ge 4, 3, 53, 0, 0, 0, []), none, none, some (.return_, 1, 0, 0, 0, 0, []), some (.aload_n 1, 1, 0, 0, 0, 0, []), some (.getfield 86, 3, 7, 2, 2, 0, [(0, 17)]), none, none, 
  some (.iload 4, 2, 0, 0, 0, 0, []), none, some (.bipush 6, 2, 0, 0, 6, 0, []), none, some (.aload_n 1, 1, 0, 0, 0, 0, []), some (.getfield 54, 3, 7, 5, 5, 0, [(0, 25)]), none, none, 
  some (.invokevirtual 46, 3, 95, 3, 0, 0, [(0, 157)]), none, none, some (.aload_n 1, 1, 0, 0, 0, 0, []), some (.getfield 31, 3, 7, 0, 0, 0, [(0, 6)]), none, none, some (.iload_n 2, 1, 0, 0, 0, 0, []), 
  some (.bipush 6, 2, 0, 0, 6, 0, []), none, some (.iload 5, 2, 0, 0, 0, 0, []), none, some (.ineg, 1, 0, 0, 0, 0, []), some (.invokevirtual 74, 3, 97, 3, 0, 0, [(0, 155)]), none, none, some (.iinc 3 1, 3, 0, 0, 1, 0, []), 
  none, none, some (.goto (-82), 3, 2, 0, 0, 0, []), none, none, some (.return_, 1, 0, 0, 0, 0, [])]
set_option maxRecDepth 100000 in
def cd4 : Cd := [some (.aload_n 1, 1, 0, 0, 0, 0, []), some (.iload_n 2, 1, 0, 0, 0, 0, []), some (.iconst 4, 1, 0, 0, 4, 0, []), some (.aload_n 1, 1, 0, 0, 0, 0, []), some (.getfield 15, 3, 7, 1, 1, 0, [(0, 10)]), none, none, 
  some (.iload_n 2, 1, 0, 0, 0, 0, []), some (.bipush 10, 2, 0, 0, 10, 0, []), none, some (.iconst 0, 1, 0, 0, 0, 0, []), some (.invokevirtual 89, 3, 96, 3, 0, 0, [(0, 162)]), none, none, 
  some (.invokevirtual 71, 3, 84, 3, 0, 0, [(0, 154)]), none, none, some (.aload_n 1, 1, 0, 0, 0, 0, []), some (.iload_n 2, 1, 0, 0, 0, 0, []), some (.iconst 4, 1, 0, 0, 4, 0, []), some (.aload_n 1, 1, 0, 0, 0, 0, []), 
  some (.getfield 15, 3, 7, 1, 1, 0, [(0, 10)]), none, none, some (.iload_n 2, 1, 0, 0, 0, 0, []), some (.iconst 5, 1, 0, 0, 5, 0, []), some (.iconst 0, 1, 0, 0, 0, 0, []), 
  some (.invokevirtual 89, 3, 96, 3, 0, 0, [(0, 162)]), none, none, some (.invokevirtual 71, 3, 84, 3, 0, 0, [(0, 154)]), none, none, some (.aload_n 1, 1, 0, 0, 0, 0, []), some (.iload_n 2, 1, 0, 0, 0, 0, []), 
  some (.iconst 2, 1, 0, 0, 2, 0, []), some (.invokevirtual 93, 3, 70, 2, 0, 0, [(0, 163)]), none, none, some (.aload_n 1, 1, 0, 0, 0, 0, []), some (.getfield 15, 3, 7, 1, 1, 0, [(0, 10)]), none, none, 
  some (.iload_n 2, 1, 0, 0, 0, 0, []), some (.bipush 8, 2, 0, 0, 8, 0, []), none, some (.ldc 64, 2, 0, 0, -1000000005, 0, [(0, 15)]), none, some (.invokevirtual 46, 3, 95, 3, 0, 0, [(0, 157)]), none, none, 
  some (.aload_n 1, 1, 0, 0, 0, 0, []), some (.getfield 15, 3, 7, 1, 1, 0, [(0, 10)]), none, none, some (.iload_n 2, 1, 0, 0, 0, 0, []), some (.bipush 11, 2, 0, 0, 11, 0, []), none, some (.iconst 1, 1, 0, 0, 1, 0, []), 
  some (.invokevirtual 46, 3, 95, 3, 0, 0, [(0, 157)]), none, none, some (.return_, 1, 0, 0, 0, 0, [])]
set_option maxRecDepth 100000 in
def cd5 : Cd := [some (.aload_n 0, 1, 0, 0, 0, 0, []), some (.getfield 46, 3, 1, 11, 11, 0, [(0, 51)]), none, none, some (.ireturn, 1, 0, 0, 0, 0, [])]
set_option maxRecDepth 100000 in
def cd6 : Cd := [some (.aload_n 0, 1, 0, 0, 0, 0, []), some (.getfield 49, 3, 1, 12, 12, 0, [(0, 52)]), none, none, some (.ireturn, 1, 0, 0, 0, 0, [])]
set_option maxRecDepth 100000 in
def cd7 : Cd := [some (.iload_n 1, 1, 0, 0, 0, 0, []), some (.ifCond .lt 29, 3, 30, 0, 0, 0, []), none, none, some (.iload_n 1, 1, 0, 0, 0, 0, []), some (.aload_n 0, 1, 0, 0, 0, 0, []), some (.getfield 42, 3, 1, 10, 10, 0, [(0, 50)]), 
  none, none, some (.if_icmp .ge 21, 3, 30, 0, 0, 0, []), none, none, some (.iload_n 1, 1, 0, 0, 0, 0, []), some (.aload_n 0, 1, 0, 0, 0, 0, []), some (.getfield 30, 3, 1, 6, 6, 0, [(0, 46)]), none, none, 
  some (.arraylength, 1, 0, 0, 0, 0, []), some (.if_icmp .ge 12, 3, 30, 0, 0, 0, []), none, none, some (.aload_n 0, 1, 0, 0, 0, 0, []), some (.getfield 30, 3, 1, 6, 6, 0, [(0, 46)]), none, none, 
  some (.iload_n 1, 1, 0, 0, 0, 0, []), some (.iaload, 1, 0, 0, 0, 0, []), some (.goto 5, 3, 32, 0, 0, 0, []), none, none, some (.ldc 52, 2, 0, 0, -1000000005, 0, [(0, 9)]), none, some (.ireturn, 1, 0, 0, 0, 0, [])]
set_option maxRecDepth 100000 in
def cd8 : Cd := [some (.aload_n 0, 1, 0, 0, 0, 0, []), some (.bipush 10, 2, 0, 0, 10, 0, []), none, some (.aload_n 1, 1, 0, 0, 0, 0, []), some (.getfield 53, 3, 7, 1, 1, 0, [(0, 12)]), none, none, 
  some (.invokevirtual 58, 3, 91, 0, 0, 0, [(0, 40)]), none, none, some (.invokestatic 64, 3, 1002, 2, 0, 0, [(0, 1)]), none, none, some (.putfield 42, 3, 1, 10, 10, 0, [(0, 50)]), none, none, 
  some (.iconst 0, 1, 0, 0, 0, 0, []), some (.istore_n 2, 1, 0, 0, 0, 0, []), some (.iload_n 2, 1, 0, 0, 0, 0, []), some (.iconst 3, 1, 0, 0, 3, 0, []), some (.if_icmp .ge 31, 3, 51, 0, 0, 0, []), none, none, 
  some (.aload_n 0, 1, 0, 0, 0, 0, []), some (.getfield 21, 3, 1, 3, 3, 0, [(0, 43)]), none, none, some (.iload_n 2, 1, 0, 0, 0, 0, []), some (.aload_n 1, 1, 0, 0, 0, 0, []), some (.getfield 70, 3, 7, 0, 0, 0, [(0, 8)]), 
  none, none, some (.iload_n 2, 1, 0, 0, 0, 0, []), some (.iconst 0, 1, 0, 0, 0, 0, []), some (.invokevirtual 73, 3, 94, 2, 0, 0, [(0, 41)]), none, none, some (.iastore, 1, 0, 0, 0, 0, []), 
  some (.aload_n 0, 1, 0, 0, 0, 0, []), some (.getfield 24, 3, 1, 4, 4, 0, [(0, 44)]), none, none, some (.iload_n 2, 1, 0, 0, 0, 0, []), some (.iconst 0, 1, 0, 0, 0, 0, []), some (.iastore, 1, 0, 0, 0, 0, []), 
  some (.iinc 2 1, 3, 0, 0, 1, 0, []), none, none, some (.goto (-30), 3, 18, 0, 0, 0, []), none, none, some (.iconst 0, 1, 0, 0, 0, 0, []), some (.istore_n 2, 1, 0, 0, 0, 0, []), some (.iload_n 2, 1, 0, 0, 0, 0, []), 
  some (.aload_n 0, 1, 0, 0, 0, 0, []), some (.getfield 42, 3, 1, 10, 10, 0, [(0, 50)]), none, none, some (.if_icmp .ge 52, 3, 110, 0, 0, 0, []), none, none, some (.aload_n 0, 1, 0, 0, 0, 0, []), 
  some (.getfield 9, 3, 1, 0, 0, 0, [(0, 40)]), none, none, some (.iload_n 2, 1, 0, 0, 0, 0, []), some (.aload_n 1, 1, 0, 0, 0, 0, []), some (.iload_n 2, 1, 0, 0, 0, 0, []), 
  some (.invokestatic 76, 3, 9, 2, 0, 0, [(0, 42)]), none, none, some (.iastore, 1, 0, 0, 0, 0, []), some (.aload_n 0, 1, 0, 0, 0, 0, []), some (.getfield 15, 3, 1, 1, 1, 0, [(0, 41)]), none, none, 
  some (.iload_n 2, 1, 0, 0, 0, 0, []), some (.aload_n 1, 1, 0, 0, 0, 0, []), some (.getfield 53, 3, 7, 1, 1, 0, [(0, 12)]), none, none, some (.iload_n 2, 1, 0, 0, 0, 0, []), some (.bipush 12, 2, 0, 0, 12, 0, []), none, 
  some (.invokevirtual 73, 3, 94, 2, 0, 0, [(0, 41)]), none, none, some (.iastore, 1, 0, 0, 0, 0, []), some (.aload_n 0, 1, 0, 0, 0, 0, []), some (.getfield 18, 3, 1, 2, 2, 0, [(0, 42)]), none, none, 
  some (.iload_n 2, 1, 0, 0, 0, 0, []), some (.aload_n 1, 1, 0, 0, 0, 0, []), some (.getfield 53, 3, 7, 1, 1, 0, [(0, 12)]), none, none, some (.iload_n 2, 1, 0, 0, 0, 0, []), some (.bipush 6, 2, 0, 0, 6, 0, []), none, 
  some (.invokevirtual 73, 3, 94, 2, 0, 0, [(0, 41)]), none, none, some (.iastore, 1, 0, 0, 0, 0, []), some (.iinc 2 1, 3, 0, 0, 1, 0, []), none, none, some (.goto (-54), 3, 53, 0, 0, 0, []), none, none, 
  some (.aload_n 0, 1, 0, 0, 0, 0, []), some (.invokevirtual 80, 3, 10, 0, 0, 0, [(0, 44)]), none, none, some (.aload_n 0, 1, 0, 0, 0, 0, []), some (.iconst (-1), 1, 0, 0, -1, 0, []), 
  some (.putfield 46, 3, 1, 11, 11, 0, [(0, 51)]), none, none, some (.aload_n 0, 1, 0, 0, 0, 0, []), some (.iconst 0, 1, 0, 0, 0, 0, []), some (.putfield 49, 3, 1, 12, 12, 0, [(0, 52)]), none, none, 
  some (.aload_n 0, 1, 0, 0, 0, 0, []), some (.iconst 0, 1, 0, 0, 0, 0, []), some (.iconst 0, 1, 0, 0, 0, 0, []), some (.iconst 0, 1, 0, 0, 0, 0, []), some (.invokevirtual 83, 3, 12, 3, 0, 0, [(0, 46)]), none, none, 
  some (.return_, 1, 0, 0, 0, 0, [])]
set_option maxRecDepth 100000 in
def cd9 : Cd := [some (.iconst 0, 1, 0, 0, 0, 0, []), some (.istore_n 2, 1, 0, 0, 0, 0, []), some (.iconst 0, 1, 0, 0, 0, 0, []), some (.istore_n 3, 1, 0, 0, 0, 0, []), some (.iload_n 3, 1, 0, 0, 0, 0, []), 
  some (.aload_n 0, 1, 0, 0, 0, 0, []), some (.getfield 70, 3, 7, 0, 0, 0, [(0, 8)]), none, none, some (.invokevirtual 58, 3, 91, 0, 0, 0, [(0, 40)]), none, none, some (.if_icmp .ge 28, 3, 40, 0, 0, 0, []), none, none, 
  some (.iload_n 2, 1, 0, 0, 0, 0, []), some (.aload_n 0, 1, 0, 0, 0, 0, []), some (.iload_n 1, 1, 0, 0, 0, 0, []), some (.iload_n 3, 1, 0, 0, 0, 0, []), some (.invokevirtual 87, 3, 66, 2, 0, 0, [(0, 43)]), none, none, 
  some (.ifCond .eq 9, 3, 31, 0, 0, 0, []), none, none, some (.iconst 1, 1, 0, 0, 1, 0, []), some (.iload_n 3, 1, 0, 0, 0, 0, []), some (.ishl, 1, 0, 0, 0, 0, []), some (.goto 4, 3, 32, 0, 0, 0, []), none, none, 
  some (.iconst 0, 1, 0, 0, 0, 0, []), some (.ior, 1, 0, 0, 0, 0, []), some (.istore_n 2, 1, 0, 0, 0, 0, []), some (.iinc 3 1, 3, 0, 0, 1, 0, []), none, none, some (.goto (-33), 3, 4, 0, 0, 0, []), none, none, 
  some (.iload_n 2, 1, 0, 0, 0, 0, []), some (.ireturn, 1, 0, 0, 0, 0, [])]
set_option maxRecDepth 100000 in
def cd10 : Cd := [some (.iconst 0, 1, 0, 0, 0, 0, []), some (.istore_n 1, 1, 0, 0, 0, 0, []), some (.aload_n 0, 1, 0, 0, 0, 0, []), some (.getfield 33, 3, 1, 7, 7, 0, [(0, 47)]), none, none, some (.aload_n 0, 1, 0, 0, 0, 0, []), 
  some (.getfield 42, 3, 1, 10, 10, 0, [(0, 50)]), none, none, some (.iconst 0, 1, 0, 0, 0, 0, []), some (.iastore, 1, 0, 0, 0, 0, []), some (.aload_n 0, 1, 0, 0, 0, 0, []), some (.getfield 36, 3, 1, 8, 8, 0, [(0, 48)]), 
  none, none, some (.aload_n 0, 1, 0, 0, 0, 0, []), some (.getfield 42, 3, 1, 10, 10, 0, [(0, 50)]), none, none, some (.bipush 11, 2, 0, 0, 11, 0, []), none, some (.imul, 1, 0, 0, 0, 0, []), 
  some (.iconst 0, 1, 0, 0, 0, 0, []), some (.iastore, 1, 0, 0, 0, 0, []), some (.aload_n 0, 1, 0, 0, 0, 0, []), some (.getfield 42, 3, 1, 10, 10, 0, [(0, 50)]), none, none, some (.iconst 1, 1, 0, 0, 1, 0, []), 
  some (.isub, 1, 0, 0, 0, 0, []), some (.istore_n 2, 1, 0, 0, 0, 0, []), some (.iload_n 2, 1, 0, 0, 0, 0, []), some (.ifCond .lt 89, 3, 122, 0, 0, 0, []), none, none, some (.aload_n 0, 1, 0, 0, 0, 0, []), 
  some (.getfield 9, 3, 1, 0, 0, 0, [(0, 40)]), none, none, some (.iload_n 2, 1, 0, 0, 0, 0, []), some (.iaload, 1, 0, 0, 0, 0, []), some (.ifCond .eq 17, 3, 59, 0, 0, 0, []), none, none, 
  some (.aload_n 0, 1, 0, 0, 0, 0, []), some (.aload_n 0, 1, 0, 0, 0, 0, []), some (.getfield 18, 3, 1, 2, 2, 0, [(0, 42)]), none, none, some (.iload_n 2, 1, 0, 0, 0, 0, []), some (.iaload, 1, 0, 0, 0, 0, []), 
  some (.iload_n 1, 1, 0, 0, 0, 0, []), some (.invokevirtual 91, 3, 11, 2, 0, 0, [(0, 45)]), none, none, some (.iinc 1 1, 3, 0, 0, 1, 0, []), none, none, some (.aload_n 0, 1, 0, 0, 0, 0, []), 
  some (.getfield 33, 3, 1, 7, 7, 0, [(0, 47)]), none, none, some (.iload_n 2, 1, 0, 0, 0, 0, []), some (.iload_n 1, 1, 0, 0, 0, 0, []), some (.iastore, 1, 0, 0, 0, 0, []), some (.iconst 0, 1, 0, 0, 0, 0, []), 
  some (.istore_n 3, 1, 0, 0, 0, 0, []), some (.iconst 0, 1, 0, 0, 0, 0, []), some (.istore 4, 2, 0, 0, 0, 0, []), none, some (.iload 4, 2, 0, 0, 0, 0, []), none, some (.iload_n 1, 1, 0, 0, 0, 0, []), 
  some (.if_icmp .gt 42, 3, 116, 0, 0, 0, []), none, none, some (.iload 4, 2, 0, 0, 0, 0, []), none, some (.aload_n 0, 1, 0, 0, 0, 0, []), some (.getfield 39, 3, 1, 9, 9, 0, [(0, 49)]), none, none, 
  some (.arraylength, 1, 0, 0, 0, 0, []), some (.if_icmp .ge 32, 3, 116, 0, 0, 0, []), none, none, some (.aload_n 0, 1, 0, 0, 0, 0, []), some (.getfield 36, 3, 1, 8, 8, 0, [(0, 48)]), none, none, 
  some (.iload_n 2, 1, 0, 0, 0, 0, []), some (.bipush 11, 2, 0, 0, 11, 0, []), none, some (.imul, 1, 0, 0, 0, 0, []), some (.iload 4, 2, 0, 0, 0, 0, []), none, some (.iadd, 1, 0, 0, 0, 0, []), 
  some (.iload_n 3, 1, 0, 0, 0, 0, []), some (.iastore, 1, 0, 0, 0, 0, []), some (.iload_n 3, 1, 0, 0, 0, 0, []), some (.aload_n 0, 1, 0, 0, 0, 0, []), some (.getfield 39, 3, 1, 9, 9, 0, [(0, 49)]), none, none, 
  some (.iload 4, 2, 0, 0, 0, 0, []), none, some (.iaload, 1, 0, 0, 0, 0, []), some (.iadd, 1, 0, 0, 0, 0, []), some (.istore_n 3, 1, 0, 0, 0, 0, []), some (.iinc 4 1, 3, 0, 0, 1, 0, []), none, none, 
  some (.goto (-42), 3, 71, 0, 0, 0, []), none, none, some (.iinc 2 (-1), 3, 0, 0, -1, 0, []), none, none, some (.goto (-87), 3, 32, 0, 0, 0, []), none, none, some (.return_, 1, 0, 0, 0, 0, [])]
set_option maxRecDepth 100000 in
def cd11 : Cd := [some (.iload_n 2, 1, 0, 0, 0, 0, []), some (.ifCond .lt 12, 3, 13, 0, 0, 0, []), none, none, some (.iload_n 2, 1, 0, 0, 0, 0, []), some (.aload_n 0, 1, 0, 0, 0, 0, []), some (.getfield 39, 3, 1, 9, 9, 0, [(0, 49)]), none, 
  none, some (.arraylength, 1, 0, 0, 0, 0, []), some (.if_icmp .lt 4, 3, 14, 0, 0, 0, []), none, none, some (.return_, 1, 0, 0, 0, 0, []), some (.iload_n 2, 1, 0, 0, 0, 0, []), some (.istore_n 3, 1, 0, 0, 0, 0, []), 
  some (.iload_n 3, 1, 0, 0, 0, 0, []), some (.ifCond .le 35, 3, 52, 0, 0, 0, []), none, none, some (.aload_n 0, 1, 0, 0, 0, 0, []), some (.getfield 39, 3, 1, 9, 9, 0, [(0, 49)]), none, none, 
  some (.iload_n 3, 1, 0, 0, 0, 0, []), some (.iconst 1, 1, 0, 0, 1, 0, []), some (.isub, 1, 0, 0, 0, 0, []), some (.iaload, 1, 0, 0, 0, 0, []), some (.iload_n 1, 1, 0, 0, 0, 0, []), 
  some (.if_icmp .le 23, 3, 52, 0, 0, 0, []), none, none, some (.aload_n 0, 1, 0, 0, 0, 0, []), some (.getfield 39, 3, 1, 9, 9, 0, [(0, 49)]), none, none, some (.iload_n 3, 1, 0, 0, 0, 0, []), 
  some (.aload_n 0, 1, 0, 0, 0, 0, []), some (.getfield 39, 3, 1, 9, 9, 0, [(0, 49)]), none, none, some (.iload_n 3, 1, 0, 0, 0, 0, []), some (.iconst 1, 1, 0, 0, 1, 0, []), some (.isub, 1, 0, 0, 0, 0, []), 
  some (.iaload, 1, 0, 0, 0, 0, []), some (.iastore, 1, 0, 0, 0, 0, []), some (.iinc 3 (-1), 3, 0, 0, -1, 0, []), none, none, some (.goto (-33), 3, 16, 0, 0, 0, []), none, none, some (.aload_n 0, 1, 0, 0, 0, 0, []), 
  some (.getfield 39, 3, 1, 9, 9, 0, [(0, 49)]), none, none, some (.iload_n 3, 1, 0, 0, 0, 0, []), some (.iload_n 1, 1, 0, 0, 0, 0, []), some (.iastore, 1, 0, 0, 0, 0, []), some (.return_, 1, 0, 0, 0, 0, [])]
set_option maxRecDepth 100000 in
def cd12 : Cd := [some (.aload_n 0, 1, 0, 0, 0, 0, []), some (.iload_n 1, 1, 0, 0, 0, 0, []), some (.iload_n 2, 1, 0, 0, 0, 0, []), some (.iload_n 3, 1, 0, 0, 0, 0, []), some (.invokevirtual 95, 3, 16, 3, 0, 0, [(0, 47)]), none, none, 
  some (.ifCond .ne 4, 3, 11, 0, 0, 0, []), none, none, some (.return_, 1, 0, 0, 0, 0, []), some (.iload_n 1, 1, 0, 0, 0, 0, []), some (.ifCond .lt 11, 3, 23, 0, 0, 0, []), none, none, some (.iload_n 1, 1, 0, 0, 0, 0, []), 
  some (.aload_n 0, 1, 0, 0, 0, 0, []), some (.getfield 42, 3, 1, 10, 10, 0, [(0, 50)]), none, none, some (.if_icmp .lt 32, 3, 52, 0, 0, 0, []), none, none, some (.aload_n 0, 1, 0, 0, 0, 0, []), 
  some (.iload_n 2, 1, 0, 0, 0, 0, []), some (.putfield 46, 3, 1, 11, 11, 0, [(0, 51)]), none, none, some (.aload_n 0, 1, 0, 0, 0, 0, []), some (.iload_n 3, 1, 0, 0, 0, 0, []), 
  some (.putfield 49, 3, 1, 12, 12, 0, [(0, 52)]), none, none, some (.aload_n 0, 1, 0, 0, 0, 0, []), some (.getfield 27, 3, 1, 5, 5, 0, [(0, 45)]), none, none, some (.iconst 0, 1, 0, 0, 0, 0, []), 
  some (.aload_n 0, 1, 0, 0, 0, 0, []), some (.getfield 30, 3, 1, 6, 6, 0, [(0, 46)]), none, none, some (.iconst 0, 1, 0, 0, 0, 0, []), some (.aload_n 0, 1, 0, 0, 0, 0, []), some (.getfield 27, 3, 1, 5, 5, 0, [(0, 45)]), 
  none, none, some (.arraylength, 1, 0, 0, 0, 0, []), some (.invokestatic 99, 3, 1003, 5, 0, 0, [(0, 2)]), none, none, some (.return_, 1, 0, 0, 0, 0, []), some (.iconst 0, 1, 0, 0, 0, 0, []), 
  some (.istore 4, 2, 0, 0, 0, 0, []), none, some (.iload 4, 2, 0, 0, 0, 0, []), none, some (.iconst 3, 1, 0, 0, 3, 0, []), some (.if_icmp .ge 18, 3, 76, 0, 0, 0, []), none, none, some (.aload_n 0, 1, 0, 0, 0, 0, []), 
  some (.iload_n 1, 1, 0, 0, 0, 0, []), some (.iload 4, 2, 0, 0, 0, 0, []), none, some (.iload_n 2, 1, 0, 0, 0, 0, []), some (.iload_n 3, 1, 0, 0, 0, 0, []), some (.invokevirtual 105, 3, 13, 4, 0, 0, [(0, 48)]), none, none, 
  some (.iinc 4 1, 3, 0, 0, 1, 0, []), none, none, some (.goto (-18), 3, 55, 0, 0, 0, []), none, none, some (.aload_n 0, 1, 0, 0, 0, 0, []), some (.iload_n 1, 1, 0, 0, 0, 0, []), some (.iload_n 2, 1, 0, 0, 0, 0, []), 
  some (.iload_n 3, 1, 0, 0, 0, 0, []), some (.invokevirtual 109, 3, 14, 3, 0, 0, [(0, 50)]), none, none, some (.return_, 1, 0, 0, 0, 0, [])]
set_option maxRecDepth 100000 in
def cd13 : Cd := [some (.aload_n 0, 1, 0, 0, 0, 0, []), some (.iload_n 1, 1, 0, 0, 0, 0, []), some (.iload_n 2, 1, 0, 0, 0, 0, []), some (.invokevirtual 112, 3, 15, 2, 0, 0, [(0, 49)]), none, none, some (.ifCond .ne 4, 3, 10, 0, 0, 0, []), 
  none, none, some (.return_, 1, 0, 0, 0, 0, []), some (.aload_n 0, 1, 0, 0, 0, 0, []), some (.getfield 27, 3, 1, 5, 5, 0, [(0, 45)]), none, none, some (.iload_n 1, 1, 0, 0, 0, 0, []), some (.iload_n 2, 1, 0, 0, 0, 0, []), 
  some (.iastore, 1, 0, 0, 0, 0, []), some (.aload_n 0, 1, 0, 0, 0, 0, []), some (.getfield 21, 3, 1, 3, 3, 0, [(0, 43)]), none, none, some (.iload_n 2, 1, 0, 0, 0, 0, []), some (.dup2, 1, 0, 0, 0, 0, []), 
  some (.iaload, 1, 0, 0, 0, 0, []), some (.iconst 1, 1, 0, 0, 1, 0, []), some (.isub, 1, 0, 0, 0, 0, []), some (.iastore, 1, 0, 0, 0, 0, []), some (.aload_n 0, 1, 0, 0, 0, 0, []), 
  some (.getfield 24, 3, 1, 4, 4, 0, [(0, 44)]), none, none, some (.iload_n 2, 1, 0, 0, 0, 0, []), some (.dup2, 1, 0, 0, 0, 0, []), some (.iaload, 1, 0, 0, 0, 0, []), some (.iconst 1, 1, 0, 0, 1, 0, []), 
  some (.iload_n 1, 1, 0, 0, 0, 0, []), some (.ishl, 1, 0, 0, 0, 0, []), some (.ior, 1, 0, 0, 0, 0, []), some (.iastore, 1, 0, 0, 0, 0, []), some (.aload_n 0, 1, 0, 0, 0, 0, []), some (.iload_n 1, 1, 0, 0, 0, 0, []), 
  some (.iconst 1, 1, 0, 0, 1, 0, []), some (.iadd, 1, 0, 0, 0, 0, []), some (.iload_n 3, 1, 0, 0, 0, 0, []), some (.iconst 1, 1, 0, 0, 1, 0, []), some (.iadd, 1, 0, 0, 0, 0, []), some (.iload 4, 2, 0, 0, 0, 0, []), none, 
  some (.aload_n 0, 1, 0, 0, 0, 0, []), some (.getfield 18, 3, 1, 2, 2, 0, [(0, 42)]), none, none, some (.iload_n 1, 1, 0, 0, 0, 0, []), some (.iaload, 1, 0, 0, 0, 0, []), some (.iadd, 1, 0, 0, 0, 0, []), 
  some (.invokevirtual 83, 3, 12, 3, 0, 0, [(0, 46)]), none, none, some (.aload_n 0, 1, 0, 0, 0, 0, []), some (.getfield 24, 3, 1, 4, 4, 0, [(0, 44)]), none, none, some (.iload_n 2, 1, 0, 0, 0, 0, []), 
  some (.dup2, 1, 0, 0, 0, 0, []), some (.iaload, 1, 0, 0, 0, 0, []), some (.iconst 1, 1, 0, 0, 1, 0, []), some (.iload_n 1, 1, 0, 0, 0, 0, []), some (.ishl, 1, 0, 0, 0, 0, []), some (.iconst (-1), 1, 0, 0, -1, 0, []), 
  some (.ixor, 1, 0, 0, 0, 0, []), some (.iand, 1, 0, 0, 0, 0, []), some (.iastore, 1, 0, 0, 0, 0, []), some (.aload_n 0, 1, 0, 0, 0, 0, []), some (.getfield 21, 3, 1, 3, 3, 0, [(0, 43)]), none, none, 
  some (.iload_n 2, 1, 0, 0, 0, 0, []), some (.dup2, 1, 0, 0, 0, 0, []), some (.iaload, 1, 0, 0, 0, 0, []), some (.iconst 1, 1, 0, 0, 1, 0, []), some (.iadd, 1, 0, 0, 0, 0, []), some (.iastore, 1, 0, 0, 0, 0, []), 
  some (.return_, 1, 0, 0, 0, 0, [])]
set_option maxRecDepth 100000 in
def cd14 : Cd := [some (.iload_n 1, 1, 0, 0, 0, 0, []), some (.ifCond .lt 12, 3, 13, 0, 0, 0, []), none, none, some (.iload_n 1, 1, 0, 0, 0, 0, []), some (.aload_n 0, 1, 0, 0, 0, 0, []), some (.getfield 27, 3, 1, 5, 5, 0, [(0, 45)]), none, 
  none, some (.arraylength, 1, 0, 0, 0, 0, []), some (.if_icmp .lt 4, 3, 14, 0, 0, 0, []), none, none, some (.return_, 1, 0, 0, 0, 0, []), some (.aload_n 0, 1, 0, 0, 0, 0, []), some (.getfield 27, 3, 1, 5, 5, 0, [(0, 45)]), 
  none, none, some (.iload_n 1, 1, 0, 0, 0, 0, []), some (.ldc 52, 2, 0, 0, -1000000005, 0, [(0, 9)]), none, some (.iastore, 1, 0, 0, 0, 0, []), some (.aload_n 0, 1, 0, 0, 0, 0, []), some (.iload_n 1, 1, 0, 0, 0, 0, []), 
  some (.iconst 1, 1, 0, 0, 1, 0, []), some (.iadd, 1, 0, 0, 0, 0, []), some (.iload_n 2, 1, 0, 0, 0, 0, []), some (.iload_n 3, 1, 0, 0, 0, 0, []), some (.invokevirtual 83, 3, 12, 3, 0, 0, [(0, 46)]), none, none, 
  some (.return_, 1, 0, 0, 0, 0, [])]
set_option maxRecDepth 100000 in
def cd15 : Cd := [some (.iload_n 1, 1, 0, 0, 0, 0, []), some (.ifCond .lt 18, 3, 19, 0, 0, 0, []), none, none, some (.iload_n 1, 1, 0, 0, 0, 0, []), some (.bipush 10, 2, 0, 0, 10, 0, []), none, some (.if_icmp .ge 12, 3, 19, 0, 0, 0, []), 
  none, none, some (.iload_n 2, 1, 0, 0, 0, 0, []), some (.ifCond .lt 8, 3, 19, 0, 0, 0, []), none, none, some (.iload_n 2, 1, 0, 0, 0, 0, []), some (.iconst 3, 1, 0, 0, 3, 0, []), some (.if_icmp .lt 5, 3, 21, 0, 0, 0, []), 
  none, none, some (.iconst 0, 1, 0, 0, 0, 0, []), some (.ireturn, 1, 0, 0, 0, 0, []), some (.aload_n 0, 1, 0, 0, 0, 0, []), some (.getfield 9, 3, 1, 0, 0, 0, [(0, 40)]), none, none, some (.iload_n 1, 1, 0, 0, 0, 0, []), 
  some (.iaload, 1, 0, 0, 0, 0, []), some (.iload_n 2, 1, 0, 0, 0, 0, []), some (.ishr, 1, 0, 0, 0, 0, []), some (.iconst 1, 1, 0, 0, 1, 0, []), some (.iand, 1, 0, 0, 0, 0, []), some (.iconst 1, 1, 0, 0, 1, 0, []), 
  some (.if_icmp .ne 32, 3, 64, 0, 0, 0, []), none, none, some (.aload_n 0, 1, 0, 0, 0, 0, []), some (.getfield 21, 3, 1, 3, 3, 0, [(0, 43)]), none, none, some (.iload_n 2, 1, 0, 0, 0, 0, []), 
  some (.iaload, 1, 0, 0, 0, 0, []), some (.ifCond .le 23, 3, 64, 0, 0, 0, []), none, none, some (.aload_n 0, 1, 0, 0, 0, 0, []), some (.getfield 24, 3, 1, 4, 4, 0, [(0, 44)]), none, none, 
  some (.iload_n 2, 1, 0, 0, 0, 0, []), some (.iaload, 1, 0, 0, 0, 0, []), some (.aload_n 0, 1, 0, 0, 0, 0, []), some (.getfield 15, 3, 1, 1, 1, 0, [(0, 41)]), none, none, some (.iload_n 1, 1, 0, 0, 0, 0, []), 
  some (.iaload, 1, 0, 0, 0, 0, []), some (.iand, 1, 0, 0, 0, 0, []), some (.ifCond .ne 7, 3, 64, 0, 0, 0, []), none, none, some (.iconst 1, 1, 0, 0, 1, 0, []), some (.goto 4, 3, 65, 0, 0, 0, []), none, none, 
  some (.iconst 0, 1, 0, 0, 0, 0, []), some (.ireturn, 1, 0, 0, 0, 0, [])]
set_option maxRecDepth 100000 in
def cd16 : Cd := [some (.iload_n 1, 1, 0, 0, 0, 0, []), some (.ifCond .lt 9, 3, 10, 0, 0, 0, []), none, none, some (.iload_n 1, 1, 0, 0, 0, 0, []), some (.bipush 11, 2, 0, 0, 11, 0, []), none, some (.if_icmp .lt 5, 3, 12, 0, 0, 0, []), 
  none, none, some (.iconst 0, 1, 0, 0, 0, 0, []), some (.ireturn, 1, 0, 0, 0, 0, []), some (.iload_n 2, 1, 0, 0, 0, 0, []), some (.aload_n 0, 1, 0, 0, 0, 0, []), some (.getfield 33, 3, 1, 7, 7, 0, [(0, 47)]), none, none, 
  some (.iload_n 1, 1, 0, 0, 0, 0, []), some (.iaload, 1, 0, 0, 0, 0, []), some (.aload_n 0, 1, 0, 0, 0, 0, []), some (.getfield 21, 3, 1, 3, 3, 0, [(0, 43)]), none, none, some (.iconst 0, 1, 0, 0, 0, 0, []), 
  some (.iaload, 1, 0, 0, 0, 0, []), some (.aload_n 0, 1, 0, 0, 0, 0, []), some (.getfield 21, 3, 1, 3, 3, 0, [(0, 43)]), none, none, some (.iconst 1, 1, 0, 0, 1, 0, []), some (.iaload, 1, 0, 0, 0, 0, []), 
  some (.iadd, 1, 0, 0, 0, 0, []), some (.aload_n 0, 1, 0, 0, 0, 0, []), some (.getfield 21, 3, 1, 3, 3, 0, [(0, 43)]), none, none, some (.iconst 2, 1, 0, 0, 2, 0, []), some (.iaload, 1, 0, 0, 0, 0, []), 
  some (.iadd, 1, 0, 0, 0, 0, []), some (.invokestatic 64, 3, 1002, 2, 0, 0, [(0, 1)]), none, none, some (.iadd, 1, 0, 0, 0, 0, []), some (.istore 4, 2, 0, 0, 0, 0, []), none, some (.aload_n 0, 1, 0, 0, 0, 0, []), 
  some (.getfield 46, 3, 1, 11, 11, 0, [(0, 51)]), none, none, some (.iload_n 2, 1, 0, 0, 0, 0, []), some (.isub, 1, 0, 0, 0, 0, []), some (.istore 5, 2, 0, 0, 0, 0, []), none, some (.iload 4, 2, 0, 0, 0, 0, []), none, 
  some (.aload_n 0, 1, 0, 0, 0, 0, []), some (.getfield 46, 3, 1, 11, 11, 0, [(0, 51)]), none, none, some (.if_icmp .ne 15, 3, 74, 0, 0, 0, []), none, none, some (.iload 5, 2, 0, 0, 0, 0, []), none, 
  some (.ifCond .lt 10, 3, 74, 0, 0, 0, []), none, none, some (.iload 5, 2, 0, 0, 0, 0, []), none, some (.bipush 11, 2, 0, 0, 11, 0, []), none, some (.if_icmp .lt 18, 3, 89, 0, 0, 0, []), none, none, 
  some (.iload 4, 2, 0, 0, 0, 0, []), none, some (.aload_n 0, 1, 0, 0, 0, 0, []), some (.getfield 46, 3, 1, 11, 11, 0, [(0, 51)]), none, none, some (.if_icmp .le 7, 3, 87, 0, 0, 0, []), none, none, 
  some (.iconst 1, 1, 0, 0, 1, 0, []), some (.goto 4, 3, 88, 0, 0, 0, []), none, none, some (.iconst 0, 1, 0, 0, 0, 0, []), some (.ireturn, 1, 0, 0, 0, 0, []), some (.iload_n 3, 1, 0, 0, 0, 0, []), 
  some (.aload_n 0, 1, 0, 0, 0, 0, []), some (.getfield 36, 3, 1, 8, 8, 0, [(0, 48)]), none, none, some (.iload_n 1, 1, 0, 0, 0, 0, []), some (.bipush 11, 2, 0, 0, 11, 0, []), none, some (.imul, 1, 0, 0, 0, 0, []), 
  some (.iload 5, 2, 0, 0, 0, 0, []), none, some (.iadd, 1, 0, 0, 0, 0, []), some (.iaload, 1, 0, 0, 0, 0, []), some (.iadd, 1, 0, 0, 0, 0, []), some (.aload_n 0, 1, 0, 0, 0, 0, []), 
  some (.getfield 49, 3, 1, 12, 12, 0, [(0, 52)]), none, none, some (.if_icmp .ge 7, 3, 114, 0, 0, 0, []), none, none, some (.iconst 1, 1, 0, 0, 1, 0, []), some (.goto 4, 3, 115, 0, 0, 0, []), none, none, 
  some (.iconst 0, 1, 0, 0, 0, 0, []), some (.ireturn, 1, 0, 0, 0, 0, [])]
set_option maxRecDepth 100000 in
def cd17 : Cd := [some (.aload_n 0, 1, 0, 0, 0, 0, []), some (.aload_n 1, 1, 0, 0, 0, 0, []), some (.iload_n 2, 1, 0, 0, 0, 0, []), some (.invokevirtual 28, 3, 18, 2, 0, 0, [(0, 74)]), none, none, some (.aload_n 0, 1, 0, 0, 0, 0, []), 
  some (.aload_n 1, 1, 0, 0, 0, 0, []), some (.iload_n 2, 1, 0, 0, 0, 0, []), some (.invokevirtual 32, 3, 19, 2, 0, 0, [(0, 79)]), none, none, some (.aload_n 1, 1, 0, 0, 0, 0, []), 
  some (.getfield 35, 3, 7, 0, 0, 0, [(0, 5)]), none, none, some (.iload_n 2, 1, 0, 0, 0, 0, []), some (.iconst 3, 1, 0, 0, 3, 0, []), some (.invokevirtual 41, 3, 94, 2, 0, 0, [(0, 78)]), none, none, 
  some (.istore_n 3, 1, 0, 0, 0, 0, []), some (.aload_n 1, 1, 0, 0, 0, 0, []), some (.getfield 35, 3, 7, 0, 0, 0, [(0, 5)]), none, none, some (.iload_n 2, 1, 0, 0, 0, 0, []), some (.bipush 6, 2, 0, 0, 6, 0, []), none, 
  some (.invokevirtual 41, 3, 94, 2, 0, 0, [(0, 78)]), none, none, some (.istore 4, 2, 0, 0, 0, 0, []), none, some (.iconst 0, 1, 0, 0, 0, 0, []), some (.istore 5, 2, 0, 0, 0, 0, []), none, 
  some (.iconst 0, 1, 0, 0, 0, 0, []), some (.istore 6, 2, 0, 0, 0, 0, []), none, some (.iload 6, 2, 0, 0, 0, 0, []), none, some (.sipush 1000, 3, 0, 0, 1000, 0, []), none, none, some (.if_icmp .ge 87, 3, 132, 0, 0, 0, []), 
  none, none, some (.iload 4, 2, 0, 0, 0, 0, []), none, some (.aload_n 0, 1, 0, 0, 0, 0, []), some (.iload 6, 2, 0, 0, 0, 0, []), none, some (.iload_n 3, 1, 0, 0, 0, 0, []), 
  some (.invokevirtual 47, 3, 20, 2, 0, 0, [(0, 81)]), none, none, some (.iadd, 1, 0, 0, 0, 0, []), some (.istore 4, 2, 0, 0, 0, 0, []), none, some (.iload 5, 2, 0, 0, 0, 0, []), none, some (.aload_n 0, 1, 0, 0, 0, 0, []), 
  some (.getfield 21, 3, 2, 3, 3, 0, [(0, 38)]), none, none, some (.if_icmp .ge 43, 3, 109, 0, 0, 0, []), none, none, some (.iload 5, 2, 0, 0, 0, 0, []), none, some (.aload_n 0, 1, 0, 0, 0, 0, []), 
  some (.getfield 9, 3, 2, 0, 0, 0, [(0, 35)]), none, none, some (.arraylength, 1, 0, 0, 0, 0, []), some (.if_icmp .ge 33, 3, 109, 0, 0, 0, []), none, none, some (.iload 4, 2, 0, 0, 0, 0, []), none, 
  some (.aload_n 0, 1, 0, 0, 0, 0, []), some (.getfield 9, 3, 2, 0, 0, 0, [(0, 35)]), none, none, some (.iload 5, 2, 0, 0, 0, 0, []), none, some (.iaload, 1, 0, 0, 0, 0, []), some (.if_icmp .lt 21, 3, 109, 0, 0, 0, []), 
  none, none, some (.iload 4, 2, 0, 0, 0, 0, []), none, some (.aload_n 0, 1, 0, 0, 0, 0, []), some (.getfield 9, 3, 2, 0, 0, 0, [(0, 35)]), none, none, some (.iload 5, 2, 0, 0, 0, 0, []), none, 
  some (.iaload, 1, 0, 0, 0, 0, []), some (.isub, 1, 0, 0, 0, 0, []), some (.istore 4, 2, 0, 0, 0, 0, []), none, some (.iinc 5 1, 3, 0, 0, 1, 0, []), none, none, some (.goto (-46), 3, 60, 0, 0, 0, []), none, none, 
  some (.iload 5, 2, 0, 0, 0, 0, []), none, some (.aload_n 0, 1, 0, 0, 0, 0, []), some (.getfield 21, 3, 2, 3, 3, 0, [(0, 38)]), none, none, some (.if_icmp .lt 11, 3, 126, 0, 0, 0, []), none, none, 
  some (.aload_n 1, 1, 0, 0, 0, 0, []), some (.getfield 50, 3, 7, 5, 5, 0, [(0, 26)]), none, none, some (.iload 6, 2, 0, 0, 0, 0, []), none, some (.iadd, 1, 0, 0, 0, 0, []), some (.ireturn, 1, 0, 0, 0, 0, []), 
  some (.iinc 6 1, 3, 0, 0, 1, 0, []), none, none, some (.goto (-89), 3, 40, 0, 0, 0, []), none, none, some (.ldc 53, 2, 0, 0, -1000000005, 0, [(0, 11)]), none, some (.ireturn, 1, 0, 0, 0, 0, [])]
set_option maxRecDepth 100000 in
def cd18 : Cd := [some (.aload_n 0, 1, 0, 0, 0, 0, []), some (.iconst 0, 1, 0, 0, 0, 0, []), some (.putfield 21, 3, 2, 3, 3, 0, [(0, 38)]), none, none, some (.aload_n 1, 1, 0, 0, 0, 0, []), some (.iload_n 2, 1, 0, 0, 0, 0, []), 
  some (.ldc 53, 2, 0, 0, -1000000005, 0, [(0, 11)]), none, some (.invokevirtual 54, 3, 81, 2, 0, 0, [(0, 75)]), none, none, some (.istore_n 3, 1, 0, 0, 0, 0, []), some (.iload_n 3, 1, 0, 0, 0, 0, []), 
  some (.ldc 53, 2, 0, 0, -1000000005, 0, [(0, 11)]), none, some (.if_icmp .eq 53, 3, 69, 0, 0, 0, []), none, none, some (.aload_n 0, 1, 0, 0, 0, 0, []), some (.getfield 21, 3, 2, 3, 3, 0, [(0, 38)]), none, none, 
  some (.aload_n 0, 1, 0, 0, 0, 0, []), some (.getfield 9, 3, 2, 0, 0, 0, [(0, 35)]), none, none, some (.arraylength, 1, 0, 0, 0, 0, []), some (.if_icmp .ge 41, 3, 69, 0, 0, 0, []), none, none, 
  some (.aload_n 0, 1, 0, 0, 0, 0, []), some (.getfield 9, 3, 2, 0, 0, 0, [(0, 35)]), none, none, some (.aload_n 0, 1, 0, 0, 0, 0, []), some (.getfield 21, 3, 2, 3, 3, 0, [(0, 38)]), none, none, 
  some (.aload_n 1, 1, 0, 0, 0, 0, []), some (.getfield 57, 3, 7, 2, 2, 0, [(0, 16)]), none, none, some (.iload_n 3, 1, 0, 0, 0, 0, []), some (.iconst 2, 1, 0, 0, 2, 0, []), 
  some (.invokevirtual 41, 3, 94, 2, 0, 0, [(0, 78)]), none, none, some (.iastore, 1, 0, 0, 0, 0, []), some (.aload_n 0, 1, 0, 0, 0, 0, []), some (.dup, 1, 0, 0, 0, 0, []), some (.getfield 21, 3, 2, 3, 3, 0, [(0, 38)]), 
  none, none, some (.iconst 1, 1, 0, 0, 1, 0, []), some (.iadd, 1, 0, 0, 0, 0, []), some (.putfield 21, 3, 2, 3, 3, 0, [(0, 38)]), none, none, some (.aload_n 1, 1, 0, 0, 0, 0, []), some (.iload_n 2, 1, 0, 0, 0, 0, []), 
  some (.iload_n 3, 1, 0, 0, 0, 0, []), some (.invokevirtual 54, 3, 81, 2, 0, 0, [(0, 75)]), none, none, some (.istore_n 3, 1, 0, 0, 0, 0, []), some (.goto (-53), 3, 13, 0, 0, 0, []), none, none, 
  some (.return_, 1, 0, 0, 0, 0, [])]
set_option maxRecDepth 100000 in
def cd19 : Cd := [some (.aload_n 0, 1, 0, 0, 0, 0, []), some (.iconst 0, 1, 0, 0, 0, 0, []), some (.putfield 25, 3, 2, 4, 4, 0, [(0, 39)]), none, none, some (.iconst 0, 1, 0, 0, 0, 0, []), some (.istore_n 3, 1, 0, 0, 0, 0, []), 
  some (.iload_n 3, 1, 0, 0, 0, 0, []), some (.aload_n 1, 1, 0, 0, 0, 0, []), some (.getfield 60, 3, 7, 1, 1, 0, [(0, 11)]), none, none, some (.invokevirtual 63, 3, 91, 0, 0, 0, [(0, 80)]), none, none, 
  some (.if_icmp .ge 94, 3, 109, 0, 0, 0, []), none, none, some (.aload_n 0, 1, 0, 0, 0, 0, []), some (.getfield 25, 3, 2, 4, 4, 0, [(0, 39)]), none, none, some (.aload_n 0, 1, 0, 0, 0, 0, []), 
  some (.getfield 15, 3, 2, 1, 1, 0, [(0, 36)]), none, none, some (.arraylength, 1, 0, 0, 0, 0, []), some (.if_icmp .ge 82, 3, 109, 0, 0, 0, []), none, none, some (.aload_n 0, 1, 0, 0, 0, 0, []), 
  some (.getfield 25, 3, 2, 4, 4, 0, [(0, 39)]), none, none, some (.aload_n 0, 1, 0, 0, 0, 0, []), some (.getfield 18, 3, 2, 2, 2, 0, [(0, 37)]), none, none, some (.arraylength, 1, 0, 0, 0, 0, []), 
  some (.if_icmp .ge 70, 3, 109, 0, 0, 0, []), none, none, some (.aload_n 1, 1, 0, 0, 0, 0, []), some (.getfield 60, 3, 7, 1, 1, 0, [(0, 11)]), none, none, some (.iload_n 3, 1, 0, 0, 0, 0, []), 
  some (.bipush 8, 2, 0, 0, 8, 0, []), none, some (.invokevirtual 41, 3, 94, 2, 0, 0, [(0, 78)]), none, none, some (.iload_n 2, 1, 0, 0, 0, 0, []), some (.if_icmp .ne 50, 3, 103, 0, 0, 0, []), none, none, 
  some (.aload_n 0, 1, 0, 0, 0, 0, []), some (.getfield 15, 3, 2, 1, 1, 0, [(0, 36)]), none, none, some (.aload_n 0, 1, 0, 0, 0, 0, []), some (.getfield 25, 3, 2, 4, 4, 0, [(0, 39)]), none, none, 
  some (.aload_n 1, 1, 0, 0, 0, 0, []), some (.getfield 60, 3, 7, 1, 1, 0, [(0, 11)]), none, none, some (.iload_n 3, 1, 0, 0, 0, 0, []), some (.iconst 1, 1, 0, 0, 1, 0, []), 
  some (.invokevirtual 41, 3, 94, 2, 0, 0, [(0, 78)]), none, none, some (.iastore, 1, 0, 0, 0, 0, []), some (.aload_n 0, 1, 0, 0, 0, 0, []), some (.getfield 18, 3, 2, 2, 2, 0, [(0, 37)]), none, none, 
  some (.aload_n 0, 1, 0, 0, 0, 0, []), some (.getfield 25, 3, 2, 4, 4, 0, [(0, 39)]), none, none, some (.aload_n 1, 1, 0, 0, 0, 0, []), some (.getfield 60, 3, 7, 1, 1, 0, [(0, 11)]), none, none, 
  some (.iload_n 3, 1, 0, 0, 0, 0, []), some (.bipush 7, 2, 0, 0, 7, 0, []), none, some (.invokevirtual 41, 3, 94, 2, 0, 0, [(0, 78)]), none, none, some (.iastore, 1, 0, 0, 0, 0, []), some (.aload_n 0, 1, 0, 0, 0, 0, []), 
  some (.dup, 1, 0, 0, 0, 0, []), some (.getfield 25, 3, 2, 4, 4, 0, [(0, 39)]), none, none, some (.iconst 1, 1, 0, 0, 1, 0, []), some (.iadd, 1, 0, 0, 0, 0, []), some (.putfield 25, 3, 2, 4, 4, 0, [(0, 39)]), none, none, 
  some (.iinc 3 1, 3, 0, 0, 1, 0, []), none, none, some (.goto (-99), 3, 7, 0, 0, 0, []), none, none, some (.return_, 1, 0, 0, 0, 0, [])]
set_option maxRecDepth 100000 in
def cd20 : Cd := [some (.iconst 0, 1, 0, 0, 0, 0, []), some (.istore_n 3, 1, 0, 0, 0, 0, []), some (.iconst 0, 1, 0, 0, 0, 0, []), some (.istore 4, 2, 0, 0, 0, 0, []), none, some (.iload 4, 2, 0, 0, 0, 0, []), none, 
  some (.aload_n 0, 1, 0, 0, 0, 0, []), some (.getfield 25, 3, 2, 4, 4, 0, [(0, 39)]), none, none, some (.if_icmp .ge 58, 3, 69, 0, 0, 0, []), none, none, some (.iload 4, 2, 0, 0, 0, 0, []), none, 
  some (.aload_n 0, 1, 0, 0, 0, 0, []), some (.getfield 15, 3, 2, 1, 1, 0, [(0, 36)]), none, none, some (.arraylength, 1, 0, 0, 0, 0, []), some (.if_icmp .ge 48, 3, 69, 0, 0, 0, []), none, none, 
  some (.iload 4, 2, 0, 0, 0, 0, []), none, some (.aload_n 0, 1, 0, 0, 0, 0, []), some (.getfield 18, 3, 2, 2, 2, 0, [(0, 37)]), none, none, some (.arraylength, 1, 0, 0, 0, 0, []), 
  some (.if_icmp .ge 38, 3, 69, 0, 0, 0, []), none, none, some (.iload_n 3, 1, 0, 0, 0, 0, []), some (.iload_n 2, 1, 0, 0, 0, 0, []), some (.iconst 3, 1, 0, 0, 3, 0, []), some (.aload_n 0, 1, 0, 0, 0, 0, []), 
  some (.getfield 15, 3, 2, 1, 1, 0, [(0, 36)]), none, none, some (.iload 4, 2, 0, 0, 0, 0, []), none, some (.iaload, 1, 0, 0, 0, 0, []), some (.aload_n 0, 1, 0, 0, 0, 0, []), some (.getfield 18, 3, 2, 2, 2, 0, [(0, 37)]), 
  none, none, some (.iload 4, 2, 0, 0, 0, 0, []), none, some (.iaload, 1, 0, 0, 0, 0, []), some (.iload_n 1, 1, 0, 0, 0, 0, []), some (.iadd, 1, 0, 0, 0, 0, []), some (.bipush 10, 2, 0, 0, 10, 0, []), none, 
  some (.idiv, 1, 0, 0, 0, 0, []), some (.iadd, 1, 0, 0, 0, 0, []), some (.invokestatic 67, 3, 1002, 2, 0, 0, [(0, 3)]), none, none, some (.iadd, 1, 0, 0, 0, 0, []), some (.iadd, 1, 0, 0, 0, 0, []), 
  some (.istore_n 3, 1, 0, 0, 0, 0, []), some (.iinc 4 1, 3, 0, 0, 1, 0, []), none, none, some (.goto (-61), 3, 5, 0, 0, 0, []), none, none, some (.iload_n 3, 1, 0, 0, 0, 0, []), some (.ireturn, 1, 0, 0, 0, 0, [])]
set_option maxRecDepth 100000 in
def cd21 : Cd := [some (.aload_n 0, 1, 0, 0, 0, 0, []), some (.getfield 15, 3, 3, 1, 1, 0, [(0, 32)]), none, none, some (.ireturn, 1, 0, 0, 0, 0, [])]
set_option maxRecDepth 100000 in
def cd22 : Cd := [some (.aload_n 0, 1, 0, 0, 0, 0, []), some (.iconst 0, 1, 0, 0, 0, 0, []), some (.putfield 15, 3, 3, 1, 1, 0, [(0, 32)]), none, none, some (.return_, 1, 0, 0, 0, 0, [])]
set_option maxRecDepth 100000 in
def cd23 : Cd := [some (.aload_n 0, 1, 0, 0, 0, 0, []), some (.getfield 15, 3, 3, 1, 1, 0, [(0, 32)]), none, none, some (.ifCond .lt 15, 3, 19, 0, 0, 0, []), none, none, some (.aload_n 0, 1, 0, 0, 0, 0, []), 
  some (.getfield 15, 3, 3, 1, 1, 0, [(0, 32)]), none, none, some (.aload_n 0, 1, 0, 0, 0, 0, []), some (.getfield 9, 3, 3, 0, 0, 0, [(0, 31)]), none, none, some (.arraylength, 1, 0, 0, 0, 0, []), 
  some (.if_icmp .lt 4, 3, 20, 0, 0, 0, []), none, none, some (.return_, 1, 0, 0, 0, 0, []), some (.aload_n 0, 1, 0, 0, 0, 0, []), some (.getfield 9, 3, 3, 0, 0, 0, [(0, 31)]), none, none, 
  some (.aload_n 0, 1, 0, 0, 0, 0, []), some (.getfield 15, 3, 3, 1, 1, 0, [(0, 32)]), none, none, some (.iload_n 1, 1, 0, 0, 0, 0, []), some (.iastore, 1, 0, 0, 0, 0, []), some (.aload_n 0, 1, 0, 0, 0, 0, []), 
  some (.dup, 1, 0, 0, 0, 0, []), some (.getfield 15, 3, 3, 1, 1, 0, [(0, 32)]), none, none, some (.iconst 1, 1, 0, 0, 1, 0, []), some (.iadd, 1, 0, 0, 0, 0, []), some (.putfield 15, 3, 3, 1, 1, 0, [(0, 32)]), none, none, 
  some (.return_, 1, 0, 0, 0, 0, [])]
set_option maxRecDepth 100000 in
def cd24 : Cd := [some (.iload_n 1, 1, 0, 0, 0, 0, []), some (.ifCond .lt 29, 3, 30, 0, 0, 0, []), none, none, some (.iload_n 1, 1, 0, 0, 0, 0, []), some (.aload_n 0, 1, 0, 0, 0, 0, []), some (.getfield 15, 3, 3, 1, 1, 0, [(0, 32)]), none, 
  none, some (.if_icmp .ge 21, 3, 30, 0, 0, 0, []), none, none, some (.iload_n 1, 1, 0, 0, 0, 0, []), some (.aload_n 0, 1, 0, 0, 0, 0, []), some (.getfield 9, 3, 3, 0, 0, 0, [(0, 31)]), none, none, 
  some (.arraylength, 1, 0, 0, 0, 0, []), some (.if_icmp .ge 12, 3, 30, 0, 0, 0, []), none, none, some (.aload_n 0, 1, 0, 0, 0, 0, []), some (.getfield 9, 3, 3, 0, 0, 0, [(0, 31)]), none, none, 
  some (.iload_n 1, 1, 0, 0, 0, 0, []), some (.iaload, 1, 0, 0, 0, 0, []), some (.goto 4, 3, 31, 0, 0, 0, []), none, none, some (.iconst 0, 1, 0, 0, 0, 0, []), some (.ireturn, 1, 0, 0, 0, 0, [])]
set_option maxRecDepth 100000 in
def cd25 : Cd := [some (.aload_n 0, 1, 0, 0, 0, 0, []), some (.getfield 15, 3, 3, 1, 1, 0, [(0, 32)]), none, none, some (.ifCond .le 29, 3, 33, 0, 0, 0, []), none, none, some (.aload_n 0, 1, 0, 0, 0, 0, []), 
  some (.getfield 15, 3, 3, 1, 1, 0, [(0, 32)]), none, none, some (.aload_n 0, 1, 0, 0, 0, 0, []), some (.getfield 9, 3, 3, 0, 0, 0, [(0, 31)]), none, none, some (.arraylength, 1, 0, 0, 0, 0, []), 
  some (.if_icmp .gt 17, 3, 33, 0, 0, 0, []), none, none, some (.aload_n 0, 1, 0, 0, 0, 0, []), some (.getfield 9, 3, 3, 0, 0, 0, [(0, 31)]), none, none, some (.aload_n 0, 1, 0, 0, 0, 0, []), 
  some (.getfield 15, 3, 3, 1, 1, 0, [(0, 32)]), none, none, some (.iconst 1, 1, 0, 0, 1, 0, []), some (.isub, 1, 0, 0, 0, 0, []), some (.iaload, 1, 0, 0, 0, 0, []), some (.goto 4, 3, 34, 0, 0, 0, []), none, none, 
  some (.iconst 0, 1, 0, 0, 0, 0, []), some (.ireturn, 1, 0, 0, 0, 0, [])]
set_option maxRecDepth 100000 in
def cd26 : Cd := [some (.aload_n 0, 1, 0, 0, 0, 0, []), some (.getfield 15, 3, 3, 1, 1, 0, [(0, 32)]), none, none, some (.ifCond .le 15, 3, 19, 0, 0, 0, []), none, none, some (.aload_n 0, 1, 0, 0, 0, 0, []), 
  some (.getfield 15, 3, 3, 1, 1, 0, [(0, 32)]), none, none, some (.aload_n 0, 1, 0, 0, 0, 0, []), some (.getfield 9, 3, 3, 0, 0, 0, [(0, 31)]), none, none, some (.arraylength, 1, 0, 0, 0, 0, []), 
  some (.if_icmp .le 5, 3, 21, 0, 0, 0, []), none, none, some (.iconst 0, 1, 0, 0, 0, 0, []), some (.ireturn, 1, 0, 0, 0, 0, []), some (.aload_n 0, 1, 0, 0, 0, 0, []), some (.dup, 1, 0, 0, 0, 0, []), 
  some (.getfield 15, 3, 3, 1, 1, 0, [(0, 32)]), none, none, some (.iconst 1, 1, 0, 0, 1, 0, []), some (.isub, 1, 0, 0, 0, 0, []), some (.putfield 15, 3, 3, 1, 1, 0, [(0, 32)]), none, none, 
  some (.aload_n 0, 1, 0, 0, 0, 0, []), some (.getfield 9, 3, 3, 0, 0, 0, [(0, 31)]), none, none, some (.aload_n 0, 1, 0, 0, 0, 0, []), some (.getfield 15, 3, 3, 1, 1, 0, [(0, 32)]), none, none, 
  some (.iaload, 1, 0, 0, 0, 0, []), some (.ireturn, 1, 0, 0, 0, 0, [])]
set_option maxRecDepth 100000 in
def cd27 : Cd := [some (.aload_n 0, 1, 0, 0, 0, 0, []), some (.invokevirtual 54, 3, 29, 0, 0, 0, [(0, 90)]), none, none, some (.aload_n 0, 1, 0, 0, 0, 0, []), some (.invokevirtual 57, 3, 30, 0, 0, 0, [(0, 92)]), none, none, 
  some (.aload_n 0, 1, 0, 0, 0, 0, []), some (.aload_n 0, 1, 0, 0, 0, 0, []), some (.invokevirtual 60, 3, 35, 0, 0, 0, [(0, 99)]), none, none, some (.putfield 21, 3, 4, 3, 3, 0, [(0, 58)]), none, none, 
  some (.aload_n 0, 1, 0, 0, 0, 0, []), some (.getfield 21, 3, 4, 3, 3, 0, [(0, 58)]), none, none, some (.ldc 64, 2, 0, 0, -1000000005, 0, [(0, 12)]), none, some (.if_icmp .ne 8, 3, 30, 0, 0, 0, []), none, none, 
  some (.aload_n 0, 1, 0, 0, 0, 0, []), some (.getfield 28, 3, 4, 5, 5, 0, [(0, 60)]), none, none, some (.ireturn, 1, 0, 0, 0, 0, []), some (.aload_n 0, 1, 0, 0, 0, 0, []), 
  some (.invokevirtual 57, 3, 30, 0, 0, 0, [(0, 92)]), none, none, some (.iconst 0, 1, 0, 0, 0, 0, []), some (.istore_n 1, 1, 0, 0, 0, 0, []), some (.iload_n 1, 1, 0, 0, 0, 0, []), some (.bipush 96, 2, 0, 0, 96, 0, []), 
  none, some (.if_icmp .ge 48, 3, 87, 0, 0, 0, []), none, none, some (.aload_n 0, 1, 0, 0, 0, 0, []), some (.getfield 34, 3, 4, 7, 7, 0, [(0, 62)]), none, none, some (.ifCond .eq 41, 3, 87, 0, 0, 0, []), none, none, 
  some (.aload_n 0, 1, 0, 0, 0, 0, []), some (.getfield 40, 3, 4, 9, 9, 0, [(0, 64)]), none, none, some (.ifCond .eq 10, 3, 63, 0, 0, 0, []), none, none, some (.aload_n 0, 1, 0, 0, 0, 0, []), 
  some (.invokevirtual 65, 3, 39, 0, 0, 0, [(0, 102)]), none, none, some (.goto 7, 3, 67, 0, 0, 0, []), none, none, some (.aload_n 0, 1, 0, 0, 0, 0, []), some (.invokevirtual 69, 3, 43, 0, 0, 0, [(0, 111)]), none, none, 
  some (.istore_n 2, 1, 0, 0, 0, 0, []), some (.iload_n 2, 1, 0, 0, 0, 0, []), some (.ifCond .ne 8, 3, 77, 0, 0, 0, []), none, none, some (.aload_n 0, 1, 0, 0, 0, 0, []), some (.getfield 28, 3, 4, 5, 5, 0, [(0, 60)]), none, 
  none, some (.ireturn, 1, 0, 0, 0, 0, []), some (.aload_n 0, 1, 0, 0, 0, 0, []), some (.invokevirtual 57, 3, 30, 0, 0, 0, [(0, 92)]), none, none, some (.iinc 1 1, 3, 0, 0, 1, 0, []), none, none, 
  some (.goto (-48), 3, 36, 0, 0, 0, []), none, none, some (.aload_n 0, 1, 0, 0, 0, 0, []), some (.getfield 40, 3, 4, 9, 9, 0, [(0, 64)]), none, none, some (.ifCond .ne 10, 3, 101, 0, 0, 0, []), none, none, 
  some (.aload_n 0, 1, 0, 0, 0, 0, []), some (.getfield 44, 3, 4, 10, 10, 0, [(0, 65)]), none, none, some (.ifCond .le 8, 3, 106, 0, 0, 0, []), none, none, some (.aload_n 0, 1, 0, 0, 0, 0, []), 
  some (.getfield 28, 3, 4, 5, 5, 0, [(0, 60)]), none, none, some (.ireturn, 1, 0, 0, 0, 0, []), some (.aload_n 0, 1, 0, 0, 0, 0, []), some (.iconst 1, 1, 0, 0, 1, 0, []), 
  some (.invokevirtual 72, 3, 46, 1, 0, 0, [(0, 113)]), none, none, some (.ldc 64, 2, 0, 0, -1000000005, 0, [(0, 12)]), none, some (.ireturn, 1, 0, 0, 0, 0, [])]
set_option maxRecDepth 100000 in
def cd28 : Cd := [some (.aload_n 1, 1, 0, 0, 0, 0, []), some (.iload_n 2, 1, 0, 0, 0, 0, []), some (.iconst 0, 1, 0, 0, 0, 0, []), some (.aload_n 0, 1, 0, 0, 0, 0, []), some (.getfield 21, 3, 4, 3, 3, 0, [(0, 58)]), none, none, 
  some (.invokevirtual 76, 3, 95, 3, 0, 0, [(0, 116)]), none, none, some (.aload_n 1, 1, 0, 0, 0, 0, []), some (.iload_n 2, 1, 0, 0, 0, 0, []), some (.iconst 2, 1, 0, 0, 2, 0, []), some (.aload_n 0, 1, 0, 0, 0, 0, []), 
  some (.getfield 25, 3, 4, 4, 4, 0, [(0, 59)]), none, none, some (.invokevirtual 76, 3, 95, 3, 0, 0, [(0, 116)]), none, none, some (.aload_n 1, 1, 0, 0, 0, 0, []), some (.iload_n 2, 1, 0, 0, 0, 0, []), 
  some (.iconst 3, 1, 0, 0, 3, 0, []), some (.aload_n 0, 1, 0, 0, 0, 0, []), some (.getfield 12, 3, 4, 1, 1, 0, [(0, 56)]), none, none, some (.invokevirtual 82, 3, 21, 0, 0, 0, [(0, 117)]), none, none, 
  some (.invokevirtual 76, 3, 95, 3, 0, 0, [(0, 116)]), none, none, some (.iconst 0, 1, 0, 0, 0, 0, []), some (.istore_n 3, 1, 0, 0, 0, 0, []), some (.iload_n 3, 1, 0, 0, 0, 0, []), some (.aload_n 0, 1, 0, 0, 0, 0, []), 
  some (.getfield 12, 3, 4, 1, 1, 0, [(0, 56)]), none, none, some (.invokevirtual 82, 3, 21, 0, 0, 0, [(0, 117)]), none, none, some (.if_icmp .ge 25, 3, 68, 0, 0, 0, []), none, none, some (.aload_n 1, 1, 0, 0, 0, 0, []), 
  some (.iload_n 2, 1, 0, 0, 0, 0, []), some (.iconst 4, 1, 0, 0, 4, 0, []), some (.iload_n 3, 1, 0, 0, 0, 0, []), some (.iadd, 1, 0, 0, 0, 0, []), some (.aload_n 0, 1, 0, 0, 0, 0, []), 
  some (.getfield 12, 3, 4, 1, 1, 0, [(0, 56)]), none, none, some (.iload_n 3, 1, 0, 0, 0, 0, []), some (.invokevirtual 85, 3, 24, 1, 0, 0, [(0, 118)]), none, none, some (.invokevirtual 76, 3, 95, 3, 0, 0, [(0, 116)]), 
  none, none, some (.iinc 3 1, 3, 0, 0, 1, 0, []), none, none, some (.goto (-30), 3, 35, 0, 0, 0, []), none, none, some (.return_, 1, 0, 0, 0, 0, [])]
set_option maxRecDepth 100000 in
def cd29 : Cd := [some (.aload_n 0, 1, 0, 0, 0, 0, []), some (.getfield 12, 3, 4, 1, 1, 0, [(0, 56)]), none, none, some (.invokevirtual 89, 3, 22, 0, 0, 0, [(0, 91)]), none, none, some (.aload_n 0, 1, 0, 0, 0, 0, []), 
  some (.getfield 18, 3, 4, 2, 2, 0, [(0, 57)]), none, none, some (.invokevirtual 89, 3, 22, 0, 0, 0, [(0, 91)]), none, none, some (.aload_n 0, 1, 0, 0, 0, 0, []), some (.iconst 0, 1, 0, 0, 0, 0, []), 
  some (.putfield 25, 3, 4, 4, 4, 0, [(0, 59)]), none, none, some (.aload_n 0, 1, 0, 0, 0, 0, []), some (.iconst 0, 1, 0, 0, 0, 0, []), some (.putfield 31, 3, 4, 6, 6, 0, [(0, 61)]), none, none, 
  some (.aload_n 0, 1, 0, 0, 0, 0, []), some (.iconst 3, 1, 0, 0, 3, 0, []), some (.putfield 34, 3, 4, 7, 7, 0, [(0, 62)]), none, none, some (.aload_n 0, 1, 0, 0, 0, 0, []), some (.iconst 1, 1, 0, 0, 1, 0, []), 
  some (.putfield 40, 3, 4, 9, 9, 0, [(0, 64)]), none, none, some (.aload_n 0, 1, 0, 0, 0, 0, []), some (.iconst 0, 1, 0, 0, 0, 0, []), some (.putfield 44, 3, 4, 10, 10, 0, [(0, 65)]), none, none, 
  some (.aload_n 0, 1, 0, 0, 0, 0, []), some (.iconst 0, 1, 0, 0, 0, 0, []), some (.putfield 47, 3, 4, 11, 11, 0, [(0, 66)]), none, none, some (.return_, 1, 0, 0, 0, 0, [])]
set_option maxRecDepth 100000 in
def cd30 : Cd := [some (.aload_n 0, 1, 0, 0, 0, 0, []), some (.getfield 34, 3, 4, 7, 7, 0, [(0, 62)]), none, none, some (.iconst 1, 1, 0, 0, 1, 0, []), some (.if_icmp .eq 11, 3, 16, 0, 0, 0, []), none, none, 
  some (.aload_n 0, 1, 0, 0, 0, 0, []), some (.getfield 34, 3, 4, 7, 7, 0, [(0, 62)]), none, none, some (.iconst 2, 1, 0, 0, 2, 0, []), some (.if_icmp .ne 7, 3, 20, 0, 0, 0, []), none, none, 
  some (.iconst 1, 1, 0, 0, 1, 0, []), some (.goto 4, 3, 21, 0, 0, 0, []), none, none, some (.iconst 0, 1, 0, 0, 0, 0, []), some (.istore_n 1, 1, 0, 0, 0, 0, []), some (.aload_n 0, 1, 0, 0, 0, 0, []), 
  some (.getfield 31, 3, 4, 6, 6, 0, [(0, 61)]), none, none, some (.istore_n 2, 1, 0, 0, 0, 0, []), some (.aload_n 0, 1, 0, 0, 0, 0, []), some (.getfield 31, 3, 4, 6, 6, 0, [(0, 61)]), none, none, 
  some (.aload_n 0, 1, 0, 0, 0, 0, []), some (.getfield 50, 3, 4, 0, 0, 0, [(0, 55)]), none, none, some (.invokevirtual 92, 3, 100, 0, 0, 0, [(0, 93)]), none, none, some (.if_icmp .ge 32, 3, 70, 0, 0, 0, []), none, none, 
  some (.aload_n 0, 1, 0, 0, 0, 0, []), some (.getfield 50, 3, 4, 0, 0, 0, [(0, 55)]), none, none, some (.aload_n 0, 1, 0, 0, 0, 0, []), some (.getfield 31, 3, 4, 6, 6, 0, [(0, 61)]), none, none, 
  some (.invokevirtual 95, 3, 104, 1, 0, 0, [(0, 94)]), none, none, some (.bipush 32, 2, 0, 0, 32, 0, []), none, some (.if_icmp .ne 16, 3, 70, 0, 0, 0, []), none, none, some (.aload_n 0, 1, 0, 0, 0, 0, []), 
  some (.dup, 1, 0, 0, 0, 0, []), some (.getfield 31, 3, 4, 6, 6, 0, [(0, 61)]), none, none, some (.iconst 1, 1, 0, 0, 1, 0, []), some (.iadd, 1, 0, 0, 0, 0, []), some (.putfield 31, 3, 4, 6, 6, 0, [(0, 61)]), none, none, 
  some (.goto (-40), 3, 27, 0, 0, 0, []), none, none, some (.aload_n 0, 1, 0, 0, 0, 0, []), some (.aload_n 0, 1, 0, 0, 0, 0, []), some (.getfield 31, 3, 4, 6, 6, 0, [(0, 61)]), none, none, 
  some (.putfield 28, 3, 4, 5, 5, 0, [(0, 60)]), none, none, some (.aload_n 0, 1, 0, 0, 0, 0, []), some (.getfield 50, 3, 4, 0, 0, 0, [(0, 55)]), none, none, some (.aload_n 0, 1, 0, 0, 0, 0, []), 
  some (.getfield 28, 3, 4, 5, 5, 0, [(0, 60)]), none, none, some (.invokevirtual 95, 3, 104, 1, 0, 0, [(0, 94)]), none, none, some (.istore_n 3, 1, 0, 0, 0, 0, []), some (.iload_n 3, 1, 0, 0, 0, 0, []), 
  some (.ifCond .ge 11, 3, 102, 0, 0, 0, []), none, none, some (.aload_n 0, 1, 0, 0, 0, 0, []), some (.iconst 0, 1, 0, 0, 0, 0, []), some (.putfield 34, 3, 4, 7, 7, 0, [(0, 62)]), none, none, 
  some (.goto 61, 3, 160, 0, 0, 0, []), none, none, some (.iload_n 3, 1, 0, 0, 0, 0, []), some (.invokestatic 96, 3, 33, 1, 0, 0, [(0, 95)]), none, none, some (.ifCond .eq 15, 3, 121, 0, 0, 0, []), none, none, 
  some (.aload_n 0, 1, 0, 0, 0, 0, []), some (.iconst 1, 1, 0, 0, 1, 0, []), some (.putfield 34, 3, 4, 7, 7, 0, [(0, 62)]), none, none, some (.aload_n 0, 1, 0, 0, 0, 0, []), 
  some (.invokevirtual 100, 3, 31, 0, 0, 0, [(0, 96)]), none, none, some (.goto 42, 3, 160, 0, 0, 0, []), none, none, some (.iload_n 3, 1, 0, 0, 0, 0, []), some (.invokestatic 103, 3, 34, 1, 0, 0, [(0, 97)]), none, none, 
  some (.ifCond .eq 15, 3, 140, 0, 0, 0, []), none, none, some (.aload_n 0, 1, 0, 0, 0, 0, []), some (.iconst 2, 1, 0, 0, 2, 0, []), some (.putfield 34, 3, 4, 7, 7, 0, [(0, 62)]), none, none, 
  some (.aload_n 0, 1, 0, 0, 0, 0, []), some (.invokevirtual 106, 3, 32, 0, 0, 0, [(0, 98)]), none, none, some (.goto 23, 3, 160, 0, 0, 0, []), none, none, some (.aload_n 0, 1, 0, 0, 0, 0, []), 
  some (.iconst 3, 1, 0, 0, 3, 0, []), some (.putfield 34, 3, 4, 7, 7, 0, [(0, 62)]), none, none, some (.aload_n 0, 1, 0, 0, 0, 0, []), some (.iload_n 3, 1, 0, 0, 0, 0, []), some (.putfield 37, 3, 4, 8, 8, 0, [(0, 63)]), 
  none, none, some (.aload_n 0, 1, 0, 0, 0, 0, []), some (.dup, 1, 0, 0, 0, 0, []), some (.getfield 31, 3, 4, 6, 6, 0, [(0, 61)]), none, none, some (.iconst 1, 1, 0, 0, 1, 0, []), some (.iadd, 1, 0, 0, 0, 0, []), 
  some (.putfield 31, 3, 4, 6, 6, 0, [(0, 61)]), none, none, some (.iload_n 1, 1, 0, 0, 0, 0, []), some (.ifCond .eq 32, 3, 193, 0, 0, 0, []), none, none, some (.aload_n 0, 1, 0, 0, 0, 0, []), 
  some (.getfield 28, 3, 4, 5, 5, 0, [(0, 60)]), none, none, some (.iload_n 2, 1, 0, 0, 0, 0, []), some (.if_icmp .ne 24, 3, 193, 0, 0, 0, []), none, none, some (.aload_n 0, 1, 0, 0, 0, 0, []), 
  some (.getfield 34, 3, 4, 7, 7, 0, [(0, 62)]), none, none, some (.iconst 1, 1, 0, 0, 1, 0, []), some (.if_icmp .eq 11, 3, 188, 0, 0, 0, []), none, none, some (.aload_n 0, 1, 0, 0, 0, 0, []), 
  some (.getfield 34, 3, 4, 7, 7, 0, [(0, 62)]), none, none, some (.iconst 2, 1, 0, 0, 2, 0, []), some (.if_icmp .ne 8, 3, 193, 0, 0, 0, []), none, none, some (.aload_n 0, 1, 0, 0, 0, 0, []), 
  some (.iconst 4, 1, 0, 0, 4, 0, []), some (.putfield 34, 3, 4, 7, 7, 0, [(0, 62)]), none, none, some (.return_, 1, 0, 0, 0, 0, [])]
set_option maxRecDepth 100000 in
def cd31 : Cd := [some (.aload_n 0, 1, 0, 0, 0, 0, []), some (.getfield 31, 3, 4, 6, 6, 0, [(0, 61)]), none, none, some (.aload_n 0, 1, 0, 0, 0, 0, []), some (.getfield 50, 3, 4, 0, 0, 0, [(0, 55)]), none, none, 
  some (.invokevirtual 92, 3, 100, 0, 0, 0, [(0, 93)]), none, none, some (.if_icmp .ge 33, 3, 44, 0, 0, 0, []), none, none, some (.aload_n 0, 1, 0, 0, 0, 0, []), some (.getfield 50, 3, 4, 0, 0, 0, [(0, 55)]), none, none, 
  some (.aload_n 0, 1, 0, 0, 0, 0, []), some (.getfield 31, 3, 4, 6, 6, 0, [(0, 61)]), none, none, some (.invokevirtual 95, 3, 104, 1, 0, 0, [(0, 94)]), none, none, some (.invokestatic 96, 3, 33, 1, 0, 0, [(0, 95)]), none, 
  none, some (.ifCond .eq 16, 3, 44, 0, 0, 0, []), none, none, some (.aload_n 0, 1, 0, 0, 0, 0, []), some (.dup, 1, 0, 0, 0, 0, []), some (.getfield 31, 3, 4, 6, 6, 0, [(0, 61)]), none, none, 
  some (.iconst 1, 1, 0, 0, 1, 0, []), some (.iadd, 1, 0, 0, 0, 0, []), some (.putfield 31, 3, 4, 6, 6, 0, [(0, 61)]), none, none, some (.goto (-41), 3, 0, 0, 0, 0, []), none, none, some (.return_, 1, 0, 0, 0, 0, [])]
set_option maxRecDepth 100000 in
def cd32 : Cd := [some (.aload_n 0, 1, 0, 0, 0, 0, []), some (.iconst 0, 1, 0, 0, 0, 0, []), some (.putfield 37, 3, 4, 8, 8, 0, [(0, 63)]), none, none, some (.aload_n 0, 1, 0, 0, 0, 0, []), some (.getfield 31, 3, 4, 6, 6, 0, [(0, 61)]), 
  none, none, some (.aload_n 0, 1, 0, 0, 0, 0, []), some (.getfield 50, 3, 4, 0, 0, 0, [(0, 55)]), none, none, some (.invokevirtual 92, 3, 100, 0, 0, 0, [(0, 93)]), none, none, some (.if_icmp .ge 65, 3, 81, 0, 0, 0, []), 
  none, none, some (.aload_n 0, 1, 0, 0, 0, 0, []), some (.getfield 50, 3, 4, 0, 0, 0, [(0, 55)]), none, none, some (.aload_n 0, 1, 0, 0, 0, 0, []), some (.getfield 31, 3, 4, 6, 6, 0, [(0, 61)]), none, none, 
  some (.invokevirtual 95, 3, 104, 1, 0, 0, [(0, 94)]), none, none, some (.invokestatic 103, 3, 34, 1, 0, 0, [(0, 97)]), none, none, some (.ifCond .eq 48, 3, 81, 0, 0, 0, []), none, none, 
  some (.aload_n 0, 1, 0, 0, 0, 0, []), some (.sipush 9999, 3, 0, 0, 9999, 0, []), none, none, some (.aload_n 0, 1, 0, 0, 0, 0, []), some (.getfield 37, 3, 4, 8, 8, 0, [(0, 63)]), none, none, 
  some (.bipush 10, 2, 0, 0, 10, 0, []), none, some (.imul, 1, 0, 0, 0, 0, []), some (.aload_n 0, 1, 0, 0, 0, 0, []), some (.getfield 50, 3, 4, 0, 0, 0, [(0, 55)]), none, none, some (.aload_n 0, 1, 0, 0, 0, 0, []), 
  some (.getfield 31, 3, 4, 6, 6, 0, [(0, 61)]), none, none, some (.invokevirtual 95, 3, 104, 1, 0, 0, [(0, 94)]), none, none, some (.iadd, 1, 0, 0, 0, 0, []), some (.bipush 48, 2, 0, 0, 48, 0, []), none, 
  some (.isub, 1, 0, 0, 0, 0, []), some (.invokestatic 109, 3, 1002, 2, 0, 0, [(0, 6)]), none, none, some (.putfield 37, 3, 4, 8, 8, 0, [(0, 63)]), none, none, some (.aload_n 0, 1, 0, 0, 0, 0, []), 
  some (.dup, 1, 0, 0, 0, 0, []), some (.getfield 31, 3, 4, 6, 6, 0, [(0, 61)]), none, none, some (.iconst 1, 1, 0, 0, 1, 0, []), some (.iadd, 1, 0, 0, 0, 0, []), some (.putfield 31, 3, 4, 6, 6, 0, [(0, 61)]), none, none, 
  some (.goto (-73), 3, 5, 0, 0, 0, []), none, none, some (.return_, 1, 0, 0, 0, 0, [])]
set_option maxRecDepth 100000 in
def cd33 : Cd := [some (.iload_n 0, 1, 0, 0, 0, 0, []), some (.bipush 97, 2, 0, 0, 97, 0, []), none, some (.if_icmp .lt 13, 3, 16, 0, 0, 0, []), none, none, some (.iload_n 0, 1, 0, 0, 0, 0, []), some (.bipush 122, 2, 0, 0, 122, 0, []), 
  none, some (.if_icmp .gt 7, 3, 16, 0, 0, 0, []), none, none, some (.iconst 1, 1, 0, 0, 1, 0, []), some (.goto 4, 3, 17, 0, 0, 0, []), none, none, some (.iconst 0, 1, 0, 0, 0, 0, []), some (.ireturn, 1, 0, 0, 0, 0, [])]
set_option maxRecDepth 100000 in
def cd34 : Cd := [some (.iload_n 0, 1, 0, 0, 0, 0, []), some (.bipush 48, 2, 0, 0, 48, 0, []), none, some (.if_icmp .lt 13, 3, 16, 0, 0, 0, []), none, none, some (.iload_n 0, 1, 0, 0, 0, 0, []), some (.bipush 57, 2, 0, 0, 57, 0, []), none, 
  some (.if_icmp .gt 7, 3, 16, 0, 0, 0, []), none, none, some (.iconst 1, 1, 0, 0, 1, 0, []), some (.goto 4, 3, 17, 0, 0, 0, []), none, none, some (.iconst 0, 1, 0, 0, 0, 0, []), some (.ireturn, 1, 0, 0, 0, 0, [])]
set_option maxRecDepth 100000 in
def cd35 : Cd := [some (.iconst 0, 1, 0, 0, 0, 0, []), some (.istore_n 1, 1, 0, 0, 0, 0, []), some (.iload_n 1, 1, 0, 0, 0, 0, []), some (.bipush 6, 2, 0, 0, 6, 0, []), none, some (.if_icmp .ge 30, 3, 35, 0, 0, 0, []), none, none, 
  some (.aload_n 0, 1, 0, 0, 0, 0, []), some (.getfield 34, 3, 4, 7, 7, 0, [(0, 62)]), none, none, some (.iconst 1, 1, 0, 0, 1, 0, []), some (.if_icmp .ne 22, 3, 35, 0, 0, 0, []), none, none, 
  some (.aload_n 0, 1, 0, 0, 0, 0, []), some (.iload_n 1, 1, 0, 0, 0, 0, []), some (.invokestatic 115, 3, 37, 1, 0, 0, [(0, 100)]), none, none, some (.invokevirtual 119, 3, 36, 1, 0, 0, [(0, 101)]), none, none, 
  some (.ifCond .eq 5, 3, 29, 0, 0, 0, []), none, none, some (.iload_n 1, 1, 0, 0, 0, 0, []), some (.ireturn, 1, 0, 0, 0, 0, []), some (.iinc 1 1, 3, 0, 0, 1, 0, []), none, none, some (.goto (-30), 3, 2, 0, 0, 0, []), none, 
  none, some (.ldc 64, 2, 0, 0, -1000000005, 0, [(0, 12)]), none, some (.ireturn, 1, 0, 0, 0, 0, [])]
set_option maxRecDepth 100000 in
def cd36 : Cd := [some (.aload_n 1, 1, 0, 0, 0, 0, []), some (.ifnull 19, 3, 20, 0, 0, 0, []), none, none, some (.aload_n 1, 1, 0, 0, 0, 0, []), some (.invokevirtual 123, 3, 900, 0, 0, 0, [(0, 7)]), none, none, 
  some (.aload_n 0, 1, 0, 0, 0, 0, []), some (.getfield 31, 3, 4, 6, 6, 0, [(0, 61)]), none, none, some (.aload_n 0, 1, 0, 0, 0, 0, []), some (.getfield 28, 3, 4, 5, 5, 0, [(0, 60)]), none, none, 
  some (.isub, 1, 0, 0, 0, 0, []), some (.if_icmp .eq 5, 3, 22, 0, 0, 0, []), none, none, some (.iconst 0, 1, 0, 0, 0, 0, []), some (.ireturn, 1, 0, 0, 0, 0, []), some (.iconst 0, 1, 0, 0, 0, 0, []), 
  some (.istore_n 2, 1, 0, 0, 0, 0, []), some (.iload_n 2, 1, 0, 0, 0, 0, []), some (.aload_n 1, 1, 0, 0, 0, 0, []), some (.invokevirtual 123, 3, 900, 0, 0, 0, [(0, 7)]), none, none, 
  some (.if_icmp .ge 32, 3, 61, 0, 0, 0, []), none, none, some (.aload_n 1, 1, 0, 0, 0, 0, []), some (.iload_n 2, 1, 0, 0, 0, 0, []), some (.invokevirtual 128, 3, 901, 1, 0, 0, [(0, 8)]), none, none, 
  some (.aload_n 0, 1, 0, 0, 0, 0, []), some (.getfield 50, 3, 4, 0, 0, 0, [(0, 55)]), none, none, some (.aload_n 0, 1, 0, 0, 0, 0, []), some (.getfield 28, 3, 4, 5, 5, 0, [(0, 60)]), none, none, 
  some (.iload_n 2, 1, 0, 0, 0, 0, []), some (.iadd, 1, 0, 0, 0, 0, []), some (.invokevirtual 95, 3, 104, 1, 0, 0, [(0, 94)]), none, none, some (.if_icmp .eq 5, 3, 55, 0, 0, 0, []), none, none, 
  some (.iconst 0, 1, 0, 0, 0, 0, []), some (.ireturn, 1, 0, 0, 0, 0, []), some (.iinc 2 1, 3, 0, 0, 1, 0, []), none, none, some (.goto (-34), 3, 24, 0, 0, 0, []), none, none, some (.iconst 1, 1, 0, 0, 1, 0, []), 
  some (.ireturn, 1, 0, 0, 0, 0, [])]
set_option maxRecDepth 100000 in
def cd37 : Cd := [some (.iload_n 0, 1, 0, 0, 0, 0, []), some (.tableswitch 50 0 4 #[35, 38, 41, 44, 47], 35, 51, 0, 0, 0, [(0, 36), (1, 39), (2, 42), (3, 45), (4, 48)]), none, none, none, none, none, none, none, none, none, none, none, 
  none, none, none, none, none, none, none, none, none, none, none, none, none, none, none, none, none, none, none, none, none, none, none, some (.ldc 132, 2, 1000, 0, 0, 0, [(0, 0)]), none, 
  some (.areturn, 1, 0, 0, 0, 0, []), some (.ldc 134, 2, 1001, 0, 0, 0, [(0, 1)]), none, some (.areturn, 1, 0, 0, 0, 0, []), some (.ldc 136, 2, 1002, 0, 0, 0, [(0, 2)]), none, some (.areturn, 1, 0, 0, 0, 0, []), 
  some (.ldc 138, 2, 1003, 0, 0, 0, [(0, 3)]), none, some (.areturn, 1, 0, 0, 0, 0, []), some (.ldc 140, 2, 1004, 0, 0, 0, [(0, 4)]), none, some (.areturn, 1, 0, 0, 0, 0, []), some (.ldc 142, 2, 1005, 0, 0, 0, [(0, 5)]), 
  none, some (.areturn, 1, 0, 0, 0, 0, [])]
set_option maxRecDepth 100000 in
def cd38 : Cd := [some (.iload_n 0, 1, 0, 0, 0, 0, []), some (.tableswitch 50 0 4 #[35, 38, 41, 44, 47], 35, 51, 0, 0, 0, [(0, 36), (1, 39), (2, 42), (3, 45), (4, 48)]), none, none, none, none, none, none, none, none, none, none, none, 
  none, none, none, none, none, none, none, none, none, none, none, none, none, none, none, none, none, none, none, none, none, none, none, some (.ldc 144, 2, 1006, 0, 0, 0, [(0, 6)]), none, 
  some (.areturn, 1, 0, 0, 0, 0, []), some (.ldc 146, 2, 1007, 0, 0, 0, [(0, 7)]), none, some (.areturn, 1, 0, 0, 0, 0, []), some (.ldc 148, 2, 1008, 0, 0, 0, [(0, 8)]), none, some (.areturn, 1, 0, 0, 0, 0, []), 
  some (.ldc 150, 2, 1009, 0, 0, 0, [(0, 9)]), none, some (.areturn, 1, 0, 0, 0, 0, []), some (.ldc 152, 2, 1010, 0, 0, 0, [(0, 10)]), none, some (.areturn, 1, 0, 0, 0, 0, []), some (.ldc 154, 2, 1011, 0, 0, 0, [(0, 11)]), 
  none, some (.areturn, 1, 0, 0, 0, 0, [])]
set_option maxRecDepth 100000 in
def cd39 : Cd := [some (.aload_n 0, 1, 0, 0, 0, 0, []), some (.getfield 34, 3, 4, 7, 7, 0, [(0, 62)]), none, none, some (.tableswitch 68 1 3 #[58, 28, 63], 28, 72, 0, 0, 0, [(1, 62), (2, 32), (3, 67)]), none, none, none, none, none, none, 
  none, none, none, none, none, none, none, none, none, none, none, none, none, none, none, none, none, none, none, none, none, some (.aload_n 0, 1, 0, 0, 0, 0, []), some (.getfield 31, 3, 4, 6, 6, 0, [(0, 61)]), none, 
  none, some (.aload_n 0, 1, 0, 0, 0, 0, []), some (.getfield 28, 3, 4, 5, 5, 0, [(0, 60)]), none, none, some (.isub, 1, 0, 0, 0, 0, []), some (.iconst 4, 1, 0, 0, 4, 0, []), some (.if_icmp .gt 18, 3, 60, 0, 0, 0, []), 
  none, none, some (.aload_n 0, 1, 0, 0, 0, 0, []), some (.aload_n 0, 1, 0, 0, 0, 0, []), some (.getfield 37, 3, 4, 8, 8, 0, [(0, 63)]), none, none, some (.invokevirtual 156, 3, 41, 1, 0, 0, [(0, 103)]), none, none, 
  some (.ifCond .eq 7, 3, 60, 0, 0, 0, []), none, none, some (.iconst 1, 1, 0, 0, 1, 0, []), some (.goto 4, 3, 61, 0, 0, 0, []), none, none, some (.iconst 0, 1, 0, 0, 0, 0, []), some (.ireturn, 1, 0, 0, 0, 0, []), 
  some (.aload_n 0, 1, 0, 0, 0, 0, []), some (.invokevirtual 159, 3, 40, 0, 0, 0, [(0, 108)]), none, none, some (.ireturn, 1, 0, 0, 0, 0, []), some (.aload_n 0, 1, 0, 0, 0, 0, []), 
  some (.invokevirtual 162, 3, 42, 0, 0, 0, [(0, 110)]), none, none, some (.ireturn, 1, 0, 0, 0, 0, []), some (.iconst 0, 1, 0, 0, 0, 0, []), some (.ireturn, 1, 0, 0, 0, 0, [])]
set_option maxRecDepth 100000 in
def cd40 : Cd := [some (.aload_n 0, 1, 0, 0, 0, 0, []), some (.getfield 31, 3, 4, 6, 6, 0, [(0, 61)]), none, none, some (.aload_n 0, 1, 0, 0, 0, 0, []), some (.getfield 28, 3, 4, 5, 5, 0, [(0, 60)]), none, none, 
  some (.isub, 1, 0, 0, 0, 0, []), some (.iconst 1, 1, 0, 0, 1, 0, []), some (.if_icmp .ne 28, 3, 38, 0, 0, 0, []), none, none, some (.aload_n 0, 1, 0, 0, 0, 0, []), some (.getfield 21, 3, 4, 3, 3, 0, [(0, 58)]), none, 
  none, some (.invokestatic 165, 3, 38, 1, 0, 0, [(0, 109)]), none, none, some (.aload_n 0, 1, 0, 0, 0, 0, []), some (.getfield 50, 3, 4, 0, 0, 0, [(0, 55)]), none, none, some (.aload_n 0, 1, 0, 0, 0, 0, []), 
  some (.getfield 28, 3, 4, 5, 5, 0, [(0, 60)]), none, none, some (.invokevirtual 95, 3, 104, 1, 0, 0, [(0, 94)]), none, none, some (.i2c, 1, 0, 0, 0, 0, []), some (.invokevirtual 168, 3, 902, 1, 0, 0, [(0, 9)]), none, 
  none, some (.goto 4, 3, 39, 0, 0, 0, []), none, none, some (.iconst (-1), 1, 0, 0, -1, 0, []), some (.istore_n 1, 1, 0, 0, 0, 0, []), some (.iload_n 1, 1, 0, 0, 0, 0, []), some (.ifCond .lt 19, 3, 60, 0, 0, 0, []), none, 
  none, some (.aload_n 0, 1, 0, 0, 0, 0, []), some (.sipush 10000, 3, 0, 0, 10000, 0, []), none, none, some (.iload_n 1, 1, 0, 0, 0, 0, []), some (.iadd, 1, 0, 0, 0, 0, []), 
  some (.invokevirtual 156, 3, 41, 1, 0, 0, [(0, 103)]), none, none, some (.ifCond .eq 7, 3, 60, 0, 0, 0, []), none, none, some (.iconst 1, 1, 0, 0, 1, 0, []), some (.goto 4, 3, 61, 0, 0, 0, []), none, none, 
  some (.iconst 0, 1, 0, 0, 0, 0, []), some (.ireturn, 1, 0, 0, 0, 0, [])]
set_option maxRecDepth 100000 in
def cd41 : Cd := [some (.aload_n 0, 1, 0, 0, 0, 0, []), some (.getfield 12, 3, 4, 1, 1, 0, [(0, 56)]), none, none, some (.iload_n 1, 1, 0, 0, 0, 0, []), some (.invokevirtual 171, 3, 23, 1, 0, 0, [(0, 104)]), none, none, 
  some (.aload_n 0, 1, 0, 0, 0, 0, []), some (.dup, 1, 0, 0, 0, 0, []), some (.getfield 25, 3, 4, 4, 4, 0, [(0, 59)]), none, none, some (.iconst 1, 1, 0, 0, 1, 0, []), some (.iadd, 1, 0, 0, 0, 0, []), 
  some (.putfield 25, 3, 4, 4, 4, 0, [(0, 59)]), none, none, some (.aload_n 0, 1, 0, 0, 0, 0, []), some (.invokevirtual 174, 3, 45, 0, 0, 0, [(0, 105)]), none, none, some (.iconst 1, 1, 0, 0, 1, 0, []), 
  some (.ireturn, 1, 0, 0, 0, 0, [])]
set_option maxRecDepth 100000 in
def cd42 : Cd := [some (.aload_n 0, 1, 0, 0, 0, 0, []), some (.getfield 37, 3, 4, 8, 8, 0, [(0, 63)]), none, none, some (.bipush 33, 2, 0, 0, 33, 0, []), none, some (.if_icmp .ne 25, 3, 31, 0, 0, 0, []), none, none, 
  some (.aload_n 0, 1, 0, 0, 0, 0, []), some (.getfield 47, 3, 4, 11, 11, 0, [(0, 66)]), none, none, some (.bipush 8, 2, 0, 0, 8, 0, []), none, some (.if_icmp .ge 16, 3, 31, 0, 0, 0, []), none, none, 
  some (.aload_n 0, 1, 0, 0, 0, 0, []), some (.dup, 1, 0, 0, 0, 0, []), some (.getfield 47, 3, 4, 11, 11, 0, [(0, 66)]), none, none, some (.iconst 1, 1, 0, 0, 1, 0, []), some (.iadd, 1, 0, 0, 0, 0, []), 
  some (.putfield 47, 3, 4, 11, 11, 0, [(0, 66)]), none, none, some (.goto 36, 3, 64, 0, 0, 0, []), none, none, some (.aload_n 0, 1, 0, 0, 0, 0, []), some (.getfield 37, 3, 4, 8, 8, 0, [(0, 63)]), none, none, 
  some (.bipush 40, 2, 0, 0, 40, 0, []), none, some (.if_icmp .ne 25, 3, 62, 0, 0, 0, []), none, none, some (.aload_n 0, 1, 0, 0, 0, 0, []), some (.getfield 44, 3, 4, 10, 10, 0, [(0, 65)]), none, none, 
  some (.bipush 8, 2, 0, 0, 8, 0, []), none, some (.if_icmp .ge 16, 3, 62, 0, 0, 0, []), none, none, some (.aload_n 0, 1, 0, 0, 0, 0, []), some (.dup, 1, 0, 0, 0, 0, []), some (.getfield 44, 3, 4, 10, 10, 0, [(0, 65)]), 
  none, none, some (.iconst 1, 1, 0, 0, 1, 0, []), some (.iadd, 1, 0, 0, 0, 0, []), some (.putfield 44, 3, 4, 10, 10, 0, [(0, 65)]), none, none, some (.goto 5, 3, 64, 0, 0, 0, []), none, none, 
  some (.iconst 0, 1, 0, 0, 0, 0, []), some (.ireturn, 1, 0, 0, 0, 0, []), some (.aload_n 0, 1, 0, 0, 0, 0, []), some (.getfield 18, 3, 4, 2, 2, 0, [(0, 57)]), none, none, some (.aload_n 0, 1, 0, 0, 0, 0, []), 
  some (.getfield 37, 3, 4, 8, 8, 0, [(0, 63)]), none, none, some (.invokevirtual 171, 3, 23, 1, 0, 0, [(0, 104)]), none, none, some (.iconst 1, 1, 0, 0, 1, 0, []), some (.ireturn, 1, 0, 0, 0, 0, [])]
set_option maxRecDepth 100000 in
def cd43 : Cd := [some (.aload_n 0, 1, 0, 0, 0, 0, []), some (.getfield 34, 3, 4, 7, 7, 0, [(0, 62)]), none, none, some (.iconst 3, 1, 0, 0, 3, 0, []), some (.if_icmp .eq 5, 3, 10, 0, 0, 0, []), none, none, 
  some (.iconst 0, 1, 0, 0, 0, 0, []), some (.ireturn, 1, 0, 0, 0, 0, []), some (.aload_n 0, 1, 0, 0, 0, 0, []), some (.getfield 37, 3, 4, 8, 8, 0, [(0, 63)]), none, none, some (.bipush 41, 2, 0, 0, 41, 0, []), none, 
  some (.if_icmp .ne 8, 3, 24, 0, 0, 0, []), none, none, some (.aload_n 0, 1, 0, 0, 0, 0, []), some (.invokevirtual 177, 3, 44, 0, 0, 0, [(0, 112)]), none, none, some (.ireturn, 1, 0, 0, 0, 0, []), 
  some (.aload_n 0, 1, 0, 0, 0, 0, []), some (.getfield 37, 3, 4, 8, 8, 0, [(0, 63)]), none, none, some (.invokestatic 180, 3, 47, 1, 0, 0, [(0, 114)]), none, none, some (.istore_n 1, 1, 0, 0, 0, 0, []), 
  some (.aload_n 0, 1, 0, 0, 0, 0, []), some (.iload_n 1, 1, 0, 0, 0, 0, []), some (.iconst 3, 1, 0, 0, 3, 0, []), some (.if_icmp .ne 9, 3, 44, 0, 0, 0, []), none, none, some (.iload_n 1, 1, 0, 0, 0, 0, []), 
  some (.iconst 1, 1, 0, 0, 1, 0, []), some (.iadd, 1, 0, 0, 0, 0, []), some (.goto 8, 3, 49, 0, 0, 0, []), none, none, some (.iload_n 1, 1, 0, 0, 0, 0, []), some (.iconst 1, 1, 0, 0, 1, 0, []), 
  some (.invokestatic 183, 3, 1001, 2, 0, 0, [(0, 10)]), none, none, some (.invokevirtual 72, 3, 46, 1, 0, 0, [(0, 113)]), none, none, some (.iload_n 1, 1, 0, 0, 0, 0, []), some (.ifCond .eq 22, 3, 75, 0, 0, 0, []), none, 
  none, some (.iload_n 1, 1, 0, 0, 0, 0, []), some (.iconst 3, 1, 0, 0, 3, 0, []), some (.if_icmp .ne 19, 3, 77, 0, 0, 0, []), none, none, some (.aload_n 0, 1, 0, 0, 0, 0, []), some (.getfield 18, 3, 4, 2, 2, 0, [(0, 57)]), 
  none, none, some (.invokevirtual 186, 3, 25, 0, 0, 0, [(0, 106)]), none, none, some (.invokestatic 180, 3, 47, 1, 0, 0, [(0, 114)]), none, none, some (.iconst 3, 1, 0, 0, 3, 0, []), 
  some (.if_icmp .ne 5, 3, 77, 0, 0, 0, []), none, none, some (.iconst 0, 1, 0, 0, 0, 0, []), some (.ireturn, 1, 0, 0, 0, 0, []), some (.aload_n 0, 1, 0, 0, 0, 0, []), some (.getfield 18, 3, 4, 2, 2, 0, [(0, 57)]), none, 
  none, some (.aload_n 0, 1, 0, 0, 0, 0, []), some (.getfield 37, 3, 4, 8, 8, 0, [(0, 63)]), none, none, some (.invokevirtual 171, 3, 23, 1, 0, 0, [(0, 104)]), none, none, some (.aload_n 0, 1, 0, 0, 0, 0, []), 
  some (.iconst 1, 1, 0, 0, 1, 0, []), some (.putfield 40, 3, 4, 9, 9, 0, [(0, 64)]), none, none, some (.iconst 1, 1, 0, 0, 1, 0, []), some (.ireturn, 1, 0, 0, 0, 0, [])]
set_option maxRecDepth 100000 in
def cd44 : Cd := [some (.aload_n 0, 1, 0, 0, 0, 0, []), some (.getfield 44, 3, 4, 10, 10, 0, [(0, 65)]), none, none, some (.ifCond .ne 5, 3, 9, 0, 0, 0, []), none, none, some (.iconst 0, 1, 0, 0, 0, 0, []), 
  some (.ireturn, 1, 0, 0, 0, 0, []), some (.aload_n 0, 1, 0, 0, 0, 0, []), some (.iconst 1, 1, 0, 0, 1, 0, []), some (.invokevirtual 72, 3, 46, 1, 0, 0, [(0, 113)]), none, none, some (.aload_n 0, 1, 0, 0, 0, 0, []), 
  some (.getfield 18, 3, 4, 2, 2, 0, [(0, 57)]), none, none, some (.invokevirtual 189, 3, 26, 0, 0, 0, [(0, 107)]), none, none, some (.pop, 1, 0, 0, 0, 0, []), some (.aload_n 0, 1, 0, 0, 0, 0, []), 
  some (.dup, 1, 0, 0, 0, 0, []), some (.getfield 44, 3, 4, 10, 10, 0, [(0, 65)]), none, none, some (.iconst 1, 1, 0, 0, 1, 0, []), some (.isub, 1, 0, 0, 0, 0, []), some (.putfield 44, 3, 4, 10, 10, 0, [(0, 65)]), none, 
  none, some (.aload_n 0, 1, 0, 0, 0, 0, []), some (.invokevirtual 174, 3, 45, 0, 0, 0, [(0, 105)]), none, none, some (.iconst 1, 1, 0, 0, 1, 0, []), some (.ireturn, 1, 0, 0, 0, 0, [])]
set_option maxRecDepth 100000 in
def cd45 : Cd := [some (.aload_n 0, 1, 0, 0, 0, 0, []), some (.getfield 47, 3, 4, 11, 11, 0, [(0, 66)]), none, none, some (.ifCond .le 46, 3, 50, 0, 0, 0, []), none, none, some (.aload_n 0, 1, 0, 0, 0, 0, []), 
  some (.getfield 18, 3, 4, 2, 2, 0, [(0, 57)]), none, none, some (.invokevirtual 186, 3, 25, 0, 0, 0, [(0, 106)]), none, none, some (.bipush 33, 2, 0, 0, 33, 0, []), none, some (.if_icmp .ne 34, 3, 50, 0, 0, 0, []), none, 
  none, some (.aload_n 0, 1, 0, 0, 0, 0, []), some (.getfield 12, 3, 4, 1, 1, 0, [(0, 56)]), none, none, some (.sipush 20000, 3, 0, 0, 20000, 0, []), none, none, some (.aload_n 0, 1, 0, 0, 0, 0, []), 
  some (.getfield 18, 3, 4, 2, 2, 0, [(0, 57)]), none, none, some (.invokevirtual 189, 3, 26, 0, 0, 0, [(0, 107)]), none, none, some (.iadd, 1, 0, 0, 0, 0, []), some (.invokevirtual 171, 3, 23, 1, 0, 0, [(0, 104)]), none, 
  none, some (.aload_n 0, 1, 0, 0, 0, 0, []), some (.dup, 1, 0, 0, 0, 0, []), some (.getfield 47, 3, 4, 11, 11, 0, [(0, 66)]), none, none, some (.iconst 1, 1, 0, 0, 1, 0, []), some (.isub, 1, 0, 0, 0, 0, []), 
  some (.putfield 47, 3, 4, 11, 11, 0, [(0, 66)]), none, none, some (.goto (-47), 3, 0, 0, 0, 0, []), none, none, some (.aload_n 0, 1, 0, 0, 0, 0, []), some (.iconst 0, 1, 0, 0, 0, 0, []), 
  some (.putfield 40, 3, 4, 9, 9, 0, [(0, 64)]), none, none, some (.return_, 1, 0, 0, 0, 0, [])]
set_option maxRecDepth 100000 in
def cd46 : Cd := [some (.iconst 0, 1, 0, 0, 0, 0, []), some (.istore_n 2, 1, 0, 0, 0, 0, []), some (.iload_n 2, 1, 0, 0, 0, 0, []), some (.bipush 96, 2, 0, 0, 96, 0, []), none, some (.if_icmp .ge 41, 3, 46, 0, 0, 0, []), none, none, 
  some (.aload_n 0, 1, 0, 0, 0, 0, []), some (.getfield 18, 3, 4, 2, 2, 0, [(0, 57)]), none, none, some (.invokevirtual 186, 3, 25, 0, 0, 0, [(0, 106)]), none, none, some (.invokestatic 180, 3, 47, 1, 0, 0, [(0, 114)]), 
  none, none, some (.iload_n 1, 1, 0, 0, 0, 0, []), some (.if_icmp .lt 27, 3, 46, 0, 0, 0, []), none, none, some (.aload_n 0, 1, 0, 0, 0, 0, []), some (.getfield 12, 3, 4, 1, 1, 0, [(0, 56)]), none, none, 
  some (.sipush 20000, 3, 0, 0, 20000, 0, []), none, none, some (.aload_n 0, 1, 0, 0, 0, 0, []), some (.getfield 18, 3, 4, 2, 2, 0, [(0, 57)]), none, none, some (.invokevirtual 189, 3, 26, 0, 0, 0, [(0, 107)]), none, none, 
  some (.iadd, 1, 0, 0, 0, 0, []), some (.invokevirtual 171, 3, 23, 1, 0, 0, [(0, 104)]), none, none, some (.iinc 2 1, 3, 0, 0, 1, 0, []), none, none, some (.goto (-41), 3, 2, 0, 0, 0, []), none, none, 
  some (.return_, 1, 0, 0, 0, 0, [])]
set_option maxRecDepth 100000 in
def cd47 : Cd := [some (.iload_n 0, 1, 0, 0, 0, 0, []), 
  some (.lookupswitch 93 #[(38, 85), (42, 91), (43, 89), (45, 89), (47, 91), (60, 87), (61, 87), (62, 87), (124, 83)], 83, 94, 0, 0, 0, [(38, 86), (42, 92), (43, 90), (45, 90), (47, 92), (60, 88), (61, 88), (62, 88), (124, 84)]), 
  none, none, none, none, none, none, none, none, none, none, none, none, none, none, none, none, none, none, none, none, none, none, none, none, none, none, none, none, none, none, none, none, none, none, none, none, none, 
  none, none, none, none, none, none, none, none, none, none, none, none, none, none, none, none, none, none, none, none, none, none, none, none, none, none, none, none, none, none, none, none, none, none, none, none, none, 
  none, none, none, none, none, none, none, none, some (.iconst 1, 1, 0, 0, 1, 0, []), some (.ireturn, 1, 0, 0, 0, 0, []), some (.iconst 2, 1, 0, 0, 2, 0, []), some (.ireturn, 1, 0, 0, 0, 0, []), 
  some (.iconst 3, 1, 0, 0, 3, 0, []), some (.ireturn, 1, 0, 0, 0, 0, []), some (.iconst 4, 1, 0, 0, 4, 0, []), some (.ireturn, 1, 0, 0, 0, 0, []), some (.iconst 5, 1, 0, 0, 5, 0, []), some (.ireturn, 1, 0, 0, 0, 0, []), 
  some (.iconst 0, 1, 0, 0, 0, 0, []), some (.ireturn, 1, 0, 0, 0, 0, [])]
set_option maxRecDepth 100000 in
def cd48 : Cd := [some (.aload_n 1, 1, 0, 0, 0, 0, []), some (.iload_n 2, 1, 0, 0, 0, 0, []), some (.invokevirtual 18, 3, 83, 1, 0, 0, [(0, 124)]), none, none, some (.istore 6, 2, 0, 0, 0, 0, []), none, some (.iload 6, 2, 0, 0, 0, 0, []), 
  none, some (.ldc 24, 2, 0, 0, -1000000005, 0, [(0, 13)]), none, some (.if_icmp .ne 13, 3, 24, 0, 0, 0, []), none, none, some (.iload_n 2, 1, 0, 0, 0, 0, []), some (.ifCond .ne 7, 3, 22, 0, 0, 0, []), none, none, 
  some (.iload_n 3, 1, 0, 0, 0, 0, []), some (.goto 4, 3, 23, 0, 0, 0, []), none, none, some (.iconst 0, 1, 0, 0, 0, 0, []), some (.ireturn, 1, 0, 0, 0, 0, []), some (.iconst 0, 1, 0, 0, 0, 0, []), 
  some (.sipush 9999, 3, 0, 0, 9999, 0, []), none, none, some (.aload_n 0, 1, 0, 0, 0, 0, []), some (.aload_n 1, 1, 0, 0, 0, 0, []), some (.getfield 25, 3, 7, 3, 3, 0, [(0, 20)]), none, none, 
  some (.iload 6, 2, 0, 0, 0, 0, []), none, some (.iload_n 3, 1, 0, 0, 0, 0, []), some (.iload 4, 2, 0, 0, 0, 0, []), none, some (.iload 5, 2, 0, 0, 0, 0, []), none, some (.invokevirtual 29, 3, 49, 5, 0, 0, [(0, 125)]), 
  none, none, some (.invokestatic 33, 3, 1002, 2, 0, 0, [(0, 11)]), none, none, some (.invokestatic 39, 3, 1001, 2, 0, 0, [(0, 12)]), none, none, some (.ireturn, 1, 0, 0, 0, 0, [])]
set_option maxRecDepth 100000 in
def cd49 : Cd := [some (.aload_n 0, 1, 0, 0, 0, 0, []), some (.getfield 12, 3, 5, 0, 0, 0, [(0, 33)]), none, none, some (.invokevirtual 42, 3, 22, 0, 0, 0, [(0, 126)]), none, none, some (.iconst 4, 1, 0, 0, 4, 0, []), 
  some (.aload_n 1, 1, 0, 0, 0, 0, []), some (.iload_n 2, 1, 0, 0, 0, 0, []), some (.iconst 3, 1, 0, 0, 3, 0, []), some (.invokevirtual 45, 3, 94, 2, 0, 0, [(0, 127)]), none, none, some (.iadd, 1, 0, 0, 0, 0, []), 
  some (.istore 6, 2, 0, 0, 0, 0, []), none, some (.iconst 4, 1, 0, 0, 4, 0, []), some (.istore 7, 2, 0, 0, 0, 0, []), none, some (.iload 7, 2, 0, 0, 0, 0, []), none, some (.iload 6, 2, 0, 0, 0, 0, []), none, 
  some (.if_icmp .ge 157, 3, 181, 0, 0, 0, []), none, none, some (.aload_n 1, 1, 0, 0, 0, 0, []), some (.iload_n 2, 1, 0, 0, 0, 0, []), some (.iload 7, 2, 0, 0, 0, 0, []), none, 
  some (.invokevirtual 45, 3, 94, 2, 0, 0, [(0, 127)]), none, none, some (.istore 8, 2, 0, 0, 0, 0, []), none, some (.iload 8, 2, 0, 0, 0, 0, []), none, some (.sipush 10000, 3, 0, 0, 10000, 0, []), none, none, 
  some (.if_icmp .ge 15, 3, 56, 0, 0, 0, []), none, none, some (.aload_n 0, 1, 0, 0, 0, 0, []), some (.getfield 12, 3, 5, 0, 0, 0, [(0, 33)]), none, none, some (.iload 8, 2, 0, 0, 0, 0, []), none, 
  some (.invokevirtual 50, 3, 23, 1, 0, 0, [(0, 128)]), none, none, some (.goto 122, 3, 175, 0, 0, 0, []), none, none, some (.iload 8, 2, 0, 0, 0, 0, []), none, some (.sipush 20000, 3, 0, 0, 20000, 0, []), none, none, 
  some (.if_icmp .ge 40, 3, 101, 0, 0, 0, []), none, none, some (.aload_n 0, 1, 0, 0, 0, 0, []), some (.getfield 12, 3, 5, 0, 0, 0, [(0, 33)]), none, none, some (.iload 8, 2, 0, 0, 0, 0, []), none, 
  some (.sipush 10000, 3, 0, 0, 10000, 0, []), none, none, some (.if_icmp .ne 7, 3, 80, 0, 0, 0, []), none, none, some (.iload_n 3, 1, 0, 0, 0, 0, []), some (.goto 18, 3, 95, 0, 0, 0, []), none, none, 
  some (.iload 8, 2, 0, 0, 0, 0, []), none, some (.sipush 10001, 3, 0, 0, 10001, 0, []), none, none, some (.if_icmp .ne 8, 3, 93, 0, 0, 0, []), none, none, some (.iload 4, 2, 0, 0, 0, 0, []), none, 
  some (.goto 5, 3, 95, 0, 0, 0, []), none, none, some (.iload 5, 2, 0, 0, 0, 0, []), none, some (.invokevirtual 50, 3, 23, 1, 0, 0, [(0, 128)]), none, none, some (.goto 77, 3, 175, 0, 0, 0, []), none, none, 
  some (.iload 8, 2, 0, 0, 0, 0, []), none, some (.sipush 20033, 3, 0, 0, 20033, 0, []), none, none, some (.if_icmp .ne 31, 3, 137, 0, 0, 0, []), none, none, some (.aload_n 0, 1, 0, 0, 0, 0, []), 
  some (.getfield 12, 3, 5, 0, 0, 0, [(0, 33)]), none, none, some (.aload_n 0, 1, 0, 0, 0, 0, []), some (.getfield 12, 3, 5, 0, 0, 0, [(0, 33)]), none, none, some (.invokevirtual 54, 3, 26, 0, 0, 0, [(0, 129)]), none, none, 
  some (.ifCond .ne 7, 3, 127, 0, 0, 0, []), none, none, some (.iconst 1, 1, 0, 0, 1, 0, []), some (.goto 4, 3, 128, 0, 0, 0, []), none, none, some (.iconst 0, 1, 0, 0, 0, 0, []), 
  some (.invokestatic 58, 3, 51, 1, 0, 0, [(0, 130)]), none, none, some (.invokevirtual 50, 3, 23, 1, 0, 0, [(0, 128)]), none, none, some (.goto 41, 3, 175, 0, 0, 0, []), none, none, some (.aload_n 0, 1, 0, 0, 0, 0, []), 
  some (.getfield 12, 3, 5, 0, 0, 0, [(0, 33)]), none, none, some (.invokevirtual 54, 3, 26, 0, 0, 0, [(0, 129)]), none, none, some (.istore 9, 2, 0, 0, 0, 0, []), none, some (.aload_n 0, 1, 0, 0, 0, 0, []), 
  some (.getfield 12, 3, 5, 0, 0, 0, [(0, 33)]), none, none, some (.invokevirtual 54, 3, 26, 0, 0, 0, [(0, 129)]), none, none, some (.istore 10, 2, 0, 0, 0, 0, []), none, some (.aload_n 0, 1, 0, 0, 0, 0, []), 
  some (.getfield 12, 3, 5, 0, 0, 0, [(0, 33)]), none, none, some (.iload 8, 2, 0, 0, 0, 0, []), none, some (.sipush 20000, 3, 0, 0, 20000, 0, []), none, none, some (.isub, 1, 0, 0, 0, 0, []), 
  some (.iload 10, 2, 0, 0, 0, 0, []), none, some (.iload 9, 2, 0, 0, 0, 0, []), none, some (.invokestatic 62, 3, 50, 3, 0, 0, [(0, 131)]), none, none, some (.invokevirtual 50, 3, 23, 1, 0, 0, [(0, 128)]), none, none, 
  some (.iinc 7 1, 3, 0, 0, 1, 0, []), none, none, some (.goto (-158), 3, 20, 0, 0, 0, []), none, none, some (.aload_n 0, 1, 0, 0, 0, 0, []), some (.getfield 12, 3, 5, 0, 0, 0, [(0, 33)]), none, none, 
  some (.invokevirtual 54, 3, 26, 0, 0, 0, [(0, 129)]), none, none, some (.ireturn, 1, 0, 0, 0, 0, [])]
set_option maxRecDepth 100000 in
def cd50 : Cd := [some (.iload_n 0, 1, 0, 0, 0, 0, []), 
  some (.lookupswitch 183 #[(38, 149), (42, 91), (43, 83), (45, 87), (47, 95), (60, 107), (61, 121), (62, 135), (124, 166)], 83, 184, 0, 0, 0, [(38, 150), (42, 92), (43, 84), (45, 88), (47, 96), (60, 108), (61, 122), (62, 136), (124, 167)]), 
  none, none, none, none, none, none, none, none, none, none, none, none, none, none, none, none, none, none, none, none, none, none, none, none, none, none, none, none, none, none, none, none, none, none, none, none, none, 
  none, none, none, none, none, none, none, none, none, none, none, none, none, none, none, none, none, none, none, none, none, none, none, none, none, none, none, none, none, none, none, none, none, none, none, none, none, 
  none, none, none, none, none, none, none, none, some (.iload_n 1, 1, 0, 0, 0, 0, []), some (.iload_n 2, 1, 0, 0, 0, 0, []), some (.iadd, 1, 0, 0, 0, 0, []), some (.ireturn, 1, 0, 0, 0, 0, []), 
  some (.iload_n 1, 1, 0, 0, 0, 0, []), some (.iload_n 2, 1, 0, 0, 0, 0, []), some (.isub, 1, 0, 0, 0, 0, []), some (.ireturn, 1, 0, 0, 0, 0, []), some (.iload_n 1, 1, 0, 0, 0, 0, []), some (.iload_n 2, 1, 0, 0, 0, 0, []), 
  some (.imul, 1, 0, 0, 0, 0, []), some (.ireturn, 1, 0, 0, 0, 0, []), some (.iload_n 2, 1, 0, 0, 0, 0, []), some (.ifCond .ne 7, 3, 104, 0, 0, 0, []), none, none, some (.iconst 0, 1, 0, 0, 0, 0, []), 
  some (.goto 6, 3, 107, 0, 0, 0, []), none, none, some (.iload_n 1, 1, 0, 0, 0, 0, []), some (.iload_n 2, 1, 0, 0, 0, 0, []), some (.idiv, 1, 0, 0, 0, 0, []), some (.ireturn, 1, 0, 0, 0, 0, []), 
  some (.iload_n 1, 1, 0, 0, 0, 0, []), some (.iload_n 2, 1, 0, 0, 0, 0, []), some (.if_icmp .ge 7, 3, 117, 0, 0, 0, []), none, none, some (.iconst 1, 1, 0, 0, 1, 0, []), some (.goto 4, 3, 118, 0, 0, 0, []), none, none, 
  some (.iconst 0, 1, 0, 0, 0, 0, []), some (.invokestatic 58, 3, 51, 1, 0, 0, [(0, 130)]), none, none, some (.ireturn, 1, 0, 0, 0, 0, []), some (.iload_n 1, 1, 0, 0, 0, 0, []), some (.iload_n 2, 1, 0, 0, 0, 0, []), 
  some (.if_icmp .ne 7, 3, 131, 0, 0, 0, []), none, none, some (.iconst 1, 1, 0, 0, 1, 0, []), some (.goto 4, 3, 132, 0, 0, 0, []), none, none, some (.iconst 0, 1, 0, 0, 0, 0, []), 
  some (.invokestatic 58, 3, 51, 1, 0, 0, [(0, 130)]), none, none, some (.ireturn, 1, 0, 0, 0, 0, []), some (.iload_n 1, 1, 0, 0, 0, 0, []), some (.iload_n 2, 1, 0, 0, 0, 0, []), some (.if_icmp .le 7, 3, 145, 0, 0, 0, []), 
  none, none, some (.iconst 1, 1, 0, 0, 1, 0, []), some (.goto 4, 3, 146, 0, 0, 0, []), none, none, some (.iconst 0, 1, 0, 0, 0, 0, []), some (.invokestatic 58, 3, 51, 1, 0, 0, [(0, 130)]), none, none, 
  some (.ireturn, 1, 0, 0, 0, 0, []), some (.iload_n 1, 1, 0, 0, 0, 0, []), some (.ifCond .eq 11, 3, 162, 0, 0, 0, []), none, none, some (.iload_n 2, 1, 0, 0, 0, 0, []), some (.ifCond .eq 7, 3, 162, 0, 0, 0, []), none, 
  none, some (.iconst 1, 1, 0, 0, 1, 0, []), some (.goto 4, 3, 163, 0, 0, 0, []), none, none, some (.iconst 0, 1, 0, 0, 0, 0, []), some (.invokestatic 58, 3, 51, 1, 0, 0, [(0, 130)]), none, none, 
  some (.ireturn, 1, 0, 0, 0, 0, []), some (.iload_n 1, 1, 0, 0, 0, 0, []), some (.ifCond .ne 7, 3, 175, 0, 0, 0, []), none, none, some (.iload_n 2, 1, 0, 0, 0, 0, []), some (.ifCond .eq 7, 3, 179, 0, 0, 0, []), none, none, 
  some (.iconst 1, 1, 0, 0, 1, 0, []), some (.goto 4, 3, 180, 0, 0, 0, []), none, none, some (.iconst 0, 1, 0, 0, 0, 0, []), some (.invokestatic 58, 3, 51, 1, 0, 0, [(0, 130)]), none, none, 
  some (.ireturn, 1, 0, 0, 0, 0, []), some (.iconst 0, 1, 0, 0, 0, 0, []), some (.ireturn, 1, 0, 0, 0, 0, [])]
set_option maxRecDepth 100000 in
def cd51 : Cd := [some (.iload_n 0, 1, 0, 0, 0, 0, []), some (.ifCond .eq 7, 3, 8, 0, 0, 0, []), none, none, some (.iconst 1, 1, 0, 0, 1, 0, []), some (.goto 4, 3, 9, 0, 0, 0, []), none, none, some (.iconst 0, 1, 0, 0, 0, 0, []), 
  some (.ireturn, 1, 0, 0, 0, 0, [])]
set_option maxRecDepth 100000 in
def cd52 : Cd := [some (.aload_n 1, 1, 0, 0, 0, 0, []), some (.getfield 66, 3, 7, 1, 1, 0, [(0, 13)]), none, none, some (.iload_n 2, 1, 0, 0, 0, 0, []), some (.bipush 10, 2, 0, 0, 10, 0, []), none, 
  some (.invokevirtual 45, 3, 94, 2, 0, 0, [(0, 127)]), none, none, some (.istore 4, 2, 0, 0, 0, 0, []), none, some (.aload_n 1, 1, 0, 0, 0, 0, []), some (.getfield 66, 3, 7, 1, 1, 0, [(0, 13)]), none, none, 
  some (.iload_n 2, 1, 0, 0, 0, 0, []), some (.iconst 3, 1, 0, 0, 3, 0, []), some (.invokevirtual 45, 3, 94, 2, 0, 0, [(0, 127)]), none, none, some (.istore 5, 2, 0, 0, 0, 0, []), none, some (.aload_n 1, 1, 0, 0, 0, 0, []), 
  some (.getfield 66, 3, 7, 1, 1, 0, [(0, 13)]), none, none, some (.iload_n 2, 1, 0, 0, 0, 0, []), some (.iconst 2, 1, 0, 0, 2, 0, []), some (.invokevirtual 45, 3, 94, 2, 0, 0, [(0, 127)]), none, none, 
  some (.aload_n 1, 1, 0, 0, 0, 0, []), some (.getfield 69, 3, 7, 5, 5, 0, [(0, 27)]), none, none, some (.isub, 1, 0, 0, 0, 0, []), some (.istore 6, 2, 0, 0, 0, 0, []), none, some (.iconst 0, 1, 0, 0, 0, 0, []), 
  some (.iload 4, 2, 0, 0, 0, 0, []), none, some (.aload_n 0, 1, 0, 0, 0, 0, []), some (.aload_n 1, 1, 0, 0, 0, 0, []), some (.iconst 4, 1, 0, 0, 4, 0, []), some (.iload 4, 2, 0, 0, 0, 0, []), none, 
  some (.iconst 0, 1, 0, 0, 0, 0, []), some (.iconst 0, 1, 0, 0, 0, 0, []), some (.invokevirtual 73, 3, 48, 5, 0, 0, [(0, 134)]), none, none, some (.isub, 1, 0, 0, 0, 0, []), 
  some (.invokestatic 39, 3, 1001, 2, 0, 0, [(0, 12)]), none, none, some (.istore 7, 2, 0, 0, 0, 0, []), none, some (.aload_n 0, 1, 0, 0, 0, 0, []), some (.aload_n 1, 1, 0, 0, 0, 0, []), some (.iconst 2, 1, 0, 0, 2, 0, []), 
  some (.iload 4, 2, 0, 0, 0, 0, []), none, some (.iload 5, 2, 0, 0, 0, 0, []), none, some (.iconst 0, 1, 0, 0, 0, 0, []), some (.invokevirtual 73, 3, 48, 5, 0, 0, [(0, 134)]), none, none, 
  some (.iload 5, 2, 0, 0, 0, 0, []), none, some (.invokestatic 33, 3, 1002, 2, 0, 0, [(0, 11)]), none, none, some (.iload 7, 2, 0, 0, 0, 0, []), none, some (.invokestatic 33, 3, 1002, 2, 0, 0, [(0, 11)]), none, none, 
  some (.istore 8, 2, 0, 0, 0, 0, []), none, some (.aload_n 0, 1, 0, 0, 0, 0, []), some (.aload_n 1, 1, 0, 0, 0, 0, []), some (.iconst 3, 1, 0, 0, 3, 0, []), some (.iload 4, 2, 0, 0, 0, 0, []), none, 
  some (.iload 6, 2, 0, 0, 0, 0, []), none, some (.iconst 0, 1, 0, 0, 0, 0, []), some (.invokevirtual 73, 3, 48, 5, 0, 0, [(0, 134)]), none, none, some (.iload 7, 2, 0, 0, 0, 0, []), none, 
  some (.iload 8, 2, 0, 0, 0, 0, []), none, some (.isub, 1, 0, 0, 0, 0, []), some (.invokestatic 33, 3, 1002, 2, 0, 0, [(0, 11)]), none, none, some (.istore 9, 2, 0, 0, 0, 0, []), none, some (.iload_n 3, 1, 0, 0, 0, 0, []), 
  some (.lookupswitch 31 #[(0, 25), (1, 28)], 25, 134, 0, 0, 0, [(0, 128), (1, 131)]), none, none, none, none, none, none, none, none, none, none, none, none, none, none, none, none, none, none, none, none, none, none, 
  none, none, some (.iload 8, 2, 0, 0, 0, 0, []), none, some (.ireturn, 1, 0, 0, 0, 0, []), some (.iload 9, 2, 0, 0, 0, 0, []), none, some (.ireturn, 1, 0, 0, 0, 0, []), some (.iload 4, 2, 0, 0, 0, 0, []), none, 
  some (.iload 8, 2, 0, 0, 0, 0, []), none, some (.isub, 1, 0, 0, 0, 0, []), some (.iload 9, 2, 0, 0, 0, 0, []), none, some (.isub, 1, 0, 0, 0, 0, []), some (.ireturn, 1, 0, 0, 0, 0, [])]
set_option maxRecDepth 100000 in
def cd53 : Cd := [some (.iload_n 1, 1, 0, 0, 0, 0, []), some (.invokestatic 22, 3, 57, 1, 0, 0, [(0, 170)]), none, none, some (.ifCond .eq 23, 3, 27, 0, 0, 0, []), none, none, some (.iload_n 2, 1, 0, 0, 0, 0, []), 
  some (.iconst (-1), 1, 0, 0, -1, 0, []), some (.iconst 2, 1, 0, 0, 2, 0, []), some (.invokestatic 26, 3, 156, 3, 0, 0, []), none, none, some (.ifCond .eq 14, 3, 27, 0, 0, 0, []), none, none, 
  some (.iload_n 2, 1, 0, 0, 0, 0, []), some (.iconst (-1), 1, 0, 0, -1, 0, []), some (.if_icmp .eq 12, 3, 30, 0, 0, 0, []), none, none, some (.iload_n 3, 1, 0, 0, 0, 0, []), some (.bipush 24, 2, 0, 0, 24, 0, []), none, 
  some (.if_icmp .le 6, 3, 30, 0, 0, 0, []), none, none, some (.ldc 30, 2, 0, 0, -1000000001, 0, [(0, 18)]), none, some (.ireturn, 1, 0, 0, 0, 0, []), some (.iload_n 2, 1, 0, 0, 0, 0, []), 
  some (.iconst (-1), 1, 0, 0, -1, 0, []), some (.if_icmp .eq 10, 3, 42, 0, 0, 0, []), none, none, some (.iload_n 3, 1, 0, 0, 0, 0, []), some (.ifCond .ge 6, 3, 42, 0, 0, 0, []), none, none, 
  some (.ldc 31, 2, 0, 0, -1000000014, 0, [(0, 19)]), none, some (.ireturn, 1, 0, 0, 0, 0, []), some (.aload_n 0, 1, 0, 0, 0, 0, []), some (.getfield 11, 3, 6, 0, 0, 0, [(0, 67)]), none, none, 
  some (.iload_n 1, 1, 0, 0, 0, 0, []), some (.iload_n 2, 1, 0, 0, 0, 0, []), some (.iastore, 1, 0, 0, 0, 0, []), some (.aload_n 0, 1, 0, 0, 0, 0, []), some (.getfield 15, 3, 6, 1, 1, 0, [(0, 68)]), none, none, 
  some (.iload_n 1, 1, 0, 0, 0, 0, []), some (.iload_n 2, 1, 0, 0, 0, 0, []), some (.iconst (-1), 1, 0, 0, -1, 0, []), some (.if_icmp .ne 7, 3, 63, 0, 0, 0, []), none, none, some (.iconst 0, 1, 0, 0, 0, 0, []), 
  some (.goto 4, 3, 64, 0, 0, 0, []), none, none, some (.iload_n 3, 1, 0, 0, 0, 0, []), some (.iastore, 1, 0, 0, 0, 0, []), some (.iconst 0, 1, 0, 0, 0, 0, []), some (.istore 4, 2, 0, 0, 0, 0, []), none, 
  some (.iload 4, 2, 0, 0, 0, 0, []), none, some (.bipush 24, 2, 0, 0, 24, 0, []), none, some (.if_icmp .ge 22, 3, 94, 0, 0, 0, []), none, none, some (.aload_n 0, 1, 0, 0, 0, 0, []), 
  some (.getfield 18, 3, 6, 2, 2, 0, [(0, 69)]), none, none, some (.iload_n 1, 1, 0, 0, 0, 0, []), some (.bipush 24, 2, 0, 0, 24, 0, []), none, some (.imul, 1, 0, 0, 0, 0, []), some (.iload 4, 2, 0, 0, 0, 0, []), none, 
  some (.iadd, 1, 0, 0, 0, 0, []), some (.lconst 0, 1, 0, 0, 0, 0, []), some (.lastore, 1, 0, 0, 0, 0, []), some (.iinc 4 1, 3, 0, 0, 1, 0, []), none, none, some (.goto (-23), 3, 68, 0, 0, 0, []), none, none, 
  some (.aload_n 0, 1, 0, 0, 0, 0, []), some (.getfield 15, 3, 6, 1, 1, 0, [(0, 68)]), none, none, some (.iload_n 1, 1, 0, 0, 0, 0, []), some (.iaload, 1, 0, 0, 0, 0, []), some (.ireturn, 1, 0, 0, 0, 0, [])]
set_option maxRecDepth 100000 in
def cd54 : Cd := [some (.iload_n 1, 1, 0, 0, 0, 0, []), some (.invokestatic 22, 3, 57, 1, 0, 0, [(0, 170)]), none, none, some (.ifCond .ne 6, 3, 10, 0, 0, 0, []), none, none, some (.ldc 30, 2, 0, 0, -1000000001, 0, [(0, 18)]), none, 
  some (.ireturn, 1, 0, 0, 0, 0, []), some (.aload_n 0, 1, 0, 0, 0, 0, []), some (.getfield 11, 3, 6, 0, 0, 0, [(0, 67)]), none, none, some (.iload_n 1, 1, 0, 0, 0, 0, []), some (.iaload, 1, 0, 0, 0, 0, []), 
  some (.iconst (-1), 1, 0, 0, -1, 0, []), some (.if_icmp .ne 6, 3, 23, 0, 0, 0, []), none, none, some (.ldc 32, 2, 0, 0, -1000000011, 0, [(0, 20)]), none, some (.ireturn, 1, 0, 0, 0, 0, []), 
  some (.aload_n 0, 1, 0, 0, 0, 0, []), some (.iload_n 1, 1, 0, 0, 0, 0, []), some (.iload_n 2, 1, 0, 0, 0, 0, []), some (.invokevirtual 33, 3, 58, 2, 0, 0, [(0, 173)]), none, none, some (.ifCond .ne 6, 3, 35, 0, 0, 0, []), 
  none, none, some (.ldc 37, 2, 0, 0, -1000000013, 0, [(0, 21)]), none, some (.ireturn, 1, 0, 0, 0, 0, []), some (.iload_n 1, 1, 0, 0, 0, 0, []), some (.bipush 24, 2, 0, 0, 24, 0, []), none, some (.imul, 1, 0, 0, 0, 0, []), 
  some (.iload_n 2, 1, 0, 0, 0, 0, []), some (.iadd, 1, 0, 0, 0, 0, []), some (.istore 5, 2, 0, 0, 0, 0, []), none, some (.aload_n 0, 1, 0, 0, 0, 0, []), some (.getfield 18, 3, 6, 2, 2, 0, [(0, 69)]), none, none, 
  some (.iload 5, 2, 0, 0, 0, 0, []), none, some (.aload_n 0, 1, 0, 0, 0, 0, []), some (.getfield 11, 3, 6, 0, 0, 0, [(0, 67)]), none, none, some (.iload_n 1, 1, 0, 0, 0, 0, []), some (.iaload, 1, 0, 0, 0, 0, []), 
  some (.aload_n 0, 1, 0, 0, 0, 0, []), some (.getfield 18, 3, 6, 2, 2, 0, [(0, 69)]), none, none, some (.iload 5, 2, 0, 0, 0, 0, []), none, some (.laload, 1, 0, 0, 0, 0, []), some (.iload_n 3, 1, 0, 0, 0, 0, []), 
  some (.i2l, 1, 0, 0, 0, 0, []), some (.lmul, 1, 0, 0, 0, 0, []), some (.iload 4, 2, 0, 0, 0, 0, []), none, some (.i2l, 1, 0, 0, 0, 0, []), some (.ladd, 1, 0, 0, 0, 0, []), 
  some (.invokestatic 38, 3, 60, 2, 0, 0, [(0, 174)]), none, none, some (.lastore, 1, 0, 0, 0, 0, []), some (.aload_n 0, 1, 0, 0, 0, 0, []), some (.getfield 18, 3, 6, 2, 2, 0, [(0, 69)]), none, none, 
  some (.iload 5, 2, 0, 0, 0, 0, []), none, some (.laload, 1, 0, 0, 0, 0, []), some (.l2i, 1, 0, 0, 0, 0, []), some (.ireturn, 1, 0, 0, 0, 0, [])]
set_option maxRecDepth 100000 in
def cd55 : Cd := [some (.iload_n 1, 1, 0, 0, 0, 0, []), some (.invokestatic 22, 3, 57, 1, 0, 0, [(0, 170)]), none, none, some (.ifCond .eq 10, 3, 14, 0, 0, 0, []), none, none, some (.iload_n 3, 1, 0, 0, 0, 0, []), 
  some (.invokestatic 22, 3, 57, 1, 0, 0, [(0, 170)]), none, none, some (.ifCond .ne 6, 3, 17, 0, 0, 0, []), none, none, some (.ldc 30, 2, 0, 0, -1000000001, 0, [(0, 18)]), none, some (.ireturn, 1, 0, 0, 0, 0, []), 
  some (.aload_n 0, 1, 0, 0, 0, 0, []), some (.getfield 11, 3, 6, 0, 0, 0, [(0, 67)]), none, none, some (.iload_n 1, 1, 0, 0, 0, 0, []), some (.iaload, 1, 0, 0, 0, 0, []), some (.iconst (-1), 1, 0, 0, -1, 0, []), 
  some (.if_icmp .eq 13, 3, 37, 0, 0, 0, []), none, none, some (.aload_n 0, 1, 0, 0, 0, 0, []), some (.getfield 11, 3, 6, 0, 0, 0, [(0, 67)]), none, none, some (.iload_n 3, 1, 0, 0, 0, 0, []), 
  some (.iaload, 1, 0, 0, 0, 0, []), some (.iconst (-1), 1, 0, 0, -1, 0, []), some (.if_icmp .ne 6, 3, 40, 0, 0, 0, []), none, none, some (.ldc 32, 2, 0, 0, -1000000011, 0, [(0, 20)]), none, 
  some (.ireturn, 1, 0, 0, 0, 0, []), some (.aload_n 0, 1, 0, 0, 0, 0, []), some (.getfield 11, 3, 6, 0, 0, 0, [(0, 67)]), none, none, some (.iload_n 1, 1, 0, 0, 0, 0, []), some (.iaload, 1, 0, 0, 0, 0, []), 
  some (.aload_n 0, 1, 0, 0, 0, 0, []), some (.getfield 11, 3, 6, 0, 0, 0, [(0, 67)]), none, none, some (.iload_n 3, 1, 0, 0, 0, 0, []), some (.iaload, 1, 0, 0, 0, 0, []), some (.if_icmp .eq 6, 3, 58, 0, 0, 0, []), none, 
  none, some (.ldc 42, 2, 0, 0, -1000000012, 0, [(0, 22)]), none, some (.ireturn, 1, 0, 0, 0, 0, []), some (.aload_n 0, 1, 0, 0, 0, 0, []), some (.iload_n 1, 1, 0, 0, 0, 0, []), some (.iload_n 2, 1, 0, 0, 0, 0, []), 
  some (.iload 5, 2, 0, 0, 0, 0, []), none, some (.invokevirtual 43, 3, 59, 3, 0, 0, [(0, 178)]), none, none, some (.ifCond .eq 15, 3, 81, 0, 0, 0, []), none, none, some (.aload_n 0, 1, 0, 0, 0, 0, []), 
  some (.iload_n 3, 1, 0, 0, 0, 0, []), some (.iload 4, 2, 0, 0, 0, 0, []), none, some (.iload 5, 2, 0, 0, 0, 0, []), none, some (.invokevirtual 43, 3, 59, 3, 0, 0, [(0, 178)]), none, none, 
  some (.ifCond .ne 6, 3, 84, 0, 0, 0, []), none, none, some (.ldc 37, 2, 0, 0, -1000000013, 0, [(0, 21)]), none, some (.ireturn, 1, 0, 0, 0, 0, []), some (.aload_n 0, 1, 0, 0, 0, 0, []), 
  some (.getfield 18, 3, 6, 2, 2, 0, [(0, 69)]), none, none, some (.iload_n 1, 1, 0, 0, 0, 0, []), some (.bipush 24, 2, 0, 0, 24, 0, []), none, some (.imul, 1, 0, 0, 0, 0, []), some (.iload_n 2, 1, 0, 0, 0, 0, []), 
  some (.iadd, 1, 0, 0, 0, 0, []), some (.aload_n 0, 1, 0, 0, 0, 0, []), some (.getfield 18, 3, 6, 2, 2, 0, [(0, 69)]), none, none, some (.iload_n 3, 1, 0, 0, 0, 0, []), some (.bipush 24, 2, 0, 0, 24, 0, []), none, 
  some (.imul, 1, 0, 0, 0, 0, []), some (.iload 4, 2, 0, 0, 0, 0, []), none, some (.iadd, 1, 0, 0, 0, 0, []), some (.iload 5, 2, 0, 0, 0, 0, []), none, some (.invokestatic 46, 3, 1003, 5, 0, 0, [(0, 17)]), none, none, 
  some (.iload 5, 2, 0, 0, 0, 0, []), none, some (.ireturn, 1, 0, 0, 0, 0, [])]
set_option maxRecDepth 100000 in
def cd56 : Cd := [some (.iload_n 1, 1, 0, 0, 0, 0, []), some (.ifCond .ge 6, 3, 7, 0, 0, 0, []), none, none, some (.ldc 30, 2, 0, 0, -1000000001, 0, [(0, 18)]), none, some (.ireturn, 1, 0, 0, 0, 0, []), 
  some (.ldc 52, 2, 0, 0, -1000000005, 0, [(0, 23)]), none, some (.istore_n 2, 1, 0, 0, 0, 0, []), some (.iconst 0, 1, 0, 0, 0, 0, []), some (.istore_n 3, 1, 0, 0, 0, 0, []), some (.iconst 0, 1, 0, 0, 0, 0, []), 
  some (.istore 4, 2, 0, 0, 0, 0, []), none, some (.iload 4, 2, 0, 0, 0, 0, []), none, some (.iconst 4, 1, 0, 0, 4, 0, []), some (.if_icmp .ge 67, 3, 85, 0, 0, 0, []), none, none, some (.aload_n 0, 1, 0, 0, 0, 0, []), 
  some (.iload 4, 2, 0, 0, 0, 0, []), none, some (.iload_n 1, 1, 0, 0, 0, 0, []), some (.invokevirtual 33, 3, 58, 2, 0, 0, [(0, 173)]), none, none, some (.ifCond .eq 51, 3, 79, 0, 0, 0, []), none, none, 
  some (.iload_n 2, 1, 0, 0, 0, 0, []), some (.ldc 52, 2, 0, 0, -1000000005, 0, [(0, 23)]), none, some (.if_icmp .ne 8, 3, 42, 0, 0, 0, []), none, none, some (.iload 4, 2, 0, 0, 0, 0, []), none, 
  some (.goto 4, 3, 43, 0, 0, 0, []), none, none, some (.iload_n 2, 1, 0, 0, 0, 0, []), some (.istore_n 2, 1, 0, 0, 0, 0, []), some (.iload_n 3, 1, 0, 0, 0, 0, []), some (.aload_n 0, 1, 0, 0, 0, 0, []), 
  some (.getfield 18, 3, 6, 2, 2, 0, [(0, 69)]), none, none, some (.iload 4, 2, 0, 0, 0, 0, []), none, some (.bipush 24, 2, 0, 0, 24, 0, []), none, some (.imul, 1, 0, 0, 0, 0, []), some (.iload_n 1, 1, 0, 0, 0, 0, []), 
  some (.iadd, 1, 0, 0, 0, 0, []), some (.laload, 1, 0, 0, 0, 0, []), some (.aload_n 0, 1, 0, 0, 0, 0, []), some (.getfield 18, 3, 6, 2, 2, 0, [(0, 69)]), none, none, some (.iload_n 2, 1, 0, 0, 0, 0, []), 
  some (.bipush 24, 2, 0, 0, 24, 0, []), none, some (.imul, 1, 0, 0, 0, 0, []), some (.iload_n 1, 1, 0, 0, 0, 0, []), some (.iadd, 1, 0, 0, 0, 0, []), some (.laload, 1, 0, 0, 0, 0, []), some (.lcmp, 1, 0, 0, 0, 0, []), 
  some (.ifCond .ne 7, 3, 76, 0, 0, 0, []), none, none, some (.iconst 0, 1, 0, 0, 0, 0, []), some (.goto 4, 3, 77, 0, 0, 0, []), none, none, some (.iconst 1, 1, 0, 0, 1, 0, []), some (.iadd, 1, 0, 0, 0, 0, []), 
  some (.istore_n 3, 1, 0, 0, 0, 0, []), some (.iinc 4 1, 3, 0, 0, 1, 0, []), none, none, some (.goto (-67), 3, 15, 0, 0, 0, []), none, none, some (.iload_n 2, 1, 0, 0, 0, 0, []), 
  some (.ldc 52, 2, 0, 0, -1000000005, 0, [(0, 23)]), none, some (.if_icmp .ne 8, 3, 96, 0, 0, 0, []), none, none, some (.ldc 52, 2, 0, 0, -1000000005, 0, [(0, 23)]), none, some (.goto 4, 3, 97, 0, 0, 0, []), none, none, 
  some (.iload_n 3, 1, 0, 0, 0, 0, []), some (.ireturn, 1, 0, 0, 0, 0, [])]
set_option maxRecDepth 100000 in
def cd57 : Cd := [some (.iload_n 0, 1, 0, 0, 0, 0, []), some (.ifCond .lt 12, 3, 13, 0, 0, 0, []), none, none, some (.iload_n 0, 1, 0, 0, 0, 0, []), some (.iconst 4, 1, 0, 0, 4, 0, []), some (.if_icmp .ge 7, 3, 13, 0, 0, 0, []), none, 
  none, some (.iconst 1, 1, 0, 0, 1, 0, []), some (.goto 4, 3, 14, 0, 0, 0, []), none, none, some (.iconst 0, 1, 0, 0, 0, 0, []), some (.ireturn, 1, 0, 0, 0, 0, [])]
set_option maxRecDepth 100000 in
def cd58 : Cd := [some (.iload_n 2, 1, 0, 0, 0, 0, []), some (.ifCond .lt 17, 3, 18, 0, 0, 0, []), none, none, some (.iload_n 2, 1, 0, 0, 0, 0, []), some (.aload_n 0, 1, 0, 0, 0, 0, []), some (.getfield 15, 3, 6, 1, 1, 0, [(0, 68)]), none, 
  none, some (.iload_n 1, 1, 0, 0, 0, 0, []), some (.iaload, 1, 0, 0, 0, 0, []), some (.if_icmp .ge 7, 3, 18, 0, 0, 0, []), none, none, some (.iconst 1, 1, 0, 0, 1, 0, []), some (.goto 4, 3, 19, 0, 0, 0, []), none, none, 
  some (.iconst 0, 1, 0, 0, 0, 0, []), some (.ireturn, 1, 0, 0, 0, 0, [])]
set_option maxRecDepth 100000 in
def cd59 : Cd := [some (.iload_n 2, 1, 0, 0, 0, 0, []), some (.ifCond .lt 33, 3, 34, 0, 0, 0, []), none, none, some (.iload_n 3, 1, 0, 0, 0, 0, []), some (.ifCond .lt 29, 3, 34, 0, 0, 0, []), none, none, 
  some (.iload_n 3, 1, 0, 0, 0, 0, []), some (.aload_n 0, 1, 0, 0, 0, 0, []), some (.getfield 15, 3, 6, 1, 1, 0, [(0, 68)]), none, none, some (.iload_n 1, 1, 0, 0, 0, 0, []), some (.iaload, 1, 0, 0, 0, 0, []), 
  some (.if_icmp .gt 19, 3, 34, 0, 0, 0, []), none, none, some (.iload_n 2, 1, 0, 0, 0, 0, []), some (.aload_n 0, 1, 0, 0, 0, 0, []), some (.getfield 15, 3, 6, 1, 1, 0, [(0, 68)]), none, none, 
  some (.iload_n 1, 1, 0, 0, 0, 0, []), some (.iaload, 1, 0, 0, 0, 0, []), some (.iload_n 3, 1, 0, 0, 0, 0, []), some (.isub, 1, 0, 0, 0, 0, []), some (.if_icmp .gt 7, 3, 34, 0, 0, 0, []), none, none, 
  some (.iconst 1, 1, 0, 0, 1, 0, []), some (.goto 4, 3, 35, 0, 0, 0, []), none, none, some (.iconst 0, 1, 0, 0, 0, 0, []), some (.ireturn, 1, 0, 0, 0, 0, [])]
set_option maxRecDepth 100000 in
def cd60 : Cd := [some (.iload_n 0, 1, 0, 0, 0, 0, []), some (.lookupswitch 37 #[(0, 27), (1, 32)], 27, 38, 0, 0, 0, [(0, 28), (1, 33)]), none, none, none, none, none, none, none, none, none, none, none, none, none, none, none, none, none, 
  none, none, none, none, none, none, none, none, none, some (.lload_n 1, 1, 0, 0, 0, 0, []), some (.l2i, 1, 0, 0, 0, 0, []), some (.i2b, 1, 0, 0, 0, 0, []), some (.i2l, 1, 0, 0, 0, 0, []), 
  some (.lreturn, 1, 0, 0, 0, 0, []), some (.lload_n 1, 1, 0, 0, 0, 0, []), some (.l2i, 1, 0, 0, 0, 0, []), some (.i2s, 1, 0, 0, 0, 0, []), some (.i2l, 1, 0, 0, 0, 0, []), some (.lreturn, 1, 0, 0, 0, 0, []), 
  some (.lload_n 1, 1, 0, 0, 0, 0, []), some (.lreturn, 1, 0, 0, 0, 0, [])]
set_option maxRecDepth 100000 in
def cd61 : Cd := [some (.aload_n 1, 1, 0, 0, 0, 0, []), some (.ifnonnull 4, 3, 5, 0, 0, 0, []), none, none, some (.return_, 1, 0, 0, 0, 0, []), some (.aload_n 0, 1, 0, 0, 0, 0, []), some (.getfield 14, 3, 7, 0, 0, 0, [(0, 4)]), none, none, 
  some (.aload_n 1, 1, 0, 0, 0, 0, []), some (.getfield 14, 3, 7, 0, 0, 0, [(0, 4)]), none, none, some (.invokevirtual 39, 3, 99, 1, 0, 0, [(0, 184)]), none, none, some (.aload_n 0, 1, 0, 0, 0, 0, []), 
  some (.getfield 20, 3, 7, 1, 1, 0, [(0, 9)]), none, none, some (.aload_n 1, 1, 0, 0, 0, 0, []), some (.getfield 20, 3, 7, 1, 1, 0, [(0, 9)]), none, none, some (.invokevirtual 39, 3, 99, 1, 0, 0, [(0, 184)]), none, none, 
  some (.aload_n 0, 1, 0, 0, 0, 0, []), some (.getfield 23, 3, 7, 2, 2, 0, [(0, 15)]), none, none, some (.aload_n 1, 1, 0, 0, 0, 0, []), some (.getfield 23, 3, 7, 2, 2, 0, [(0, 15)]), none, none, 
  some (.invokevirtual 39, 3, 99, 1, 0, 0, [(0, 184)]), none, none, some (.aload_n 0, 1, 0, 0, 0, 0, []), some (.getfield 26, 3, 7, 3, 3, 0, [(0, 19)]), none, none, some (.aload_n 1, 1, 0, 0, 0, 0, []), 
  some (.getfield 26, 3, 7, 3, 3, 0, [(0, 19)]), none, none, some (.invokevirtual 39, 3, 99, 1, 0, 0, [(0, 184)]), none, none, some (.aload_n 0, 1, 0, 0, 0, 0, []), some (.getfield 29, 3, 7, 4, 4, 0, [(0, 22)]), none, none, 
  some (.aload_n 1, 1, 0, 0, 0, 0, []), some (.getfield 29, 3, 7, 4, 4, 0, [(0, 22)]), none, none, some (.invokevirtual 39, 3, 99, 1, 0, 0, [(0, 184)]), none, none, some (.aload_n 0, 1, 0, 0, 0, 0, []), 
  some (.aload_n 1, 1, 0, 0, 0, 0, []), some (.getfield 32, 3, 7, 5, 5, 0, [(0, 24)]), none, none, some (.putfield 32, 3, 7, 5, 5, 0, [(0, 24)]), none, none, some (.aload_n 0, 1, 0, 0, 0, 0, []), 
  some (.aload_n 1, 1, 0, 0, 0, 0, []), some (.getfield 36, 3, 7, 6, 6, 0, [(0, 29)]), none, none, some (.putfield 36, 3, 7, 6, 6, 0, [(0, 29)]), none, none, some (.return_, 1, 0, 0, 0, 0, [])]
set_option maxRecDepth 100000 in
def cd62 : Cd := [some (.aload_n 0, 1, 0, 0, 0, 0, []), some (.getfield 20, 3, 7, 1, 1, 0, [(0, 9)]), none, none, some (.iload_n 1, 1, 0, 0, 0, 0, []), some (.bipush 11, 2, 0, 0, 11, 0, []), none, 
  some (.invokevirtual 43, 3, 94, 2, 0, 0, [(0, 14)]), none, none, some (.iconst 1, 1, 0, 0, 1, 0, []), some (.if_icmp .ne 7, 3, 18, 0, 0, 0, []), none, none, some (.iconst 1, 1, 0, 0, 1, 0, []), 
  some (.goto 4, 3, 19, 0, 0, 0, []), none, none, some (.iconst 0, 1, 0, 0, 0, 0, []), some (.ireturn, 1, 0, 0, 0, 0, [])]
set_option maxRecDepth 100000 in
def cd63 : Cd := [some (.iconst 0, 1, 0, 0, 0, 0, []), some (.istore_n 1, 1, 0, 0, 0, 0, []), some (.iconst 0, 1, 0, 0, 0, 0, []), some (.istore_n 2, 1, 0, 0, 0, 0, []), some (.iload_n 2, 1, 0, 0, 0, 0, []), 
  some (.aload_n 0, 1, 0, 0, 0, 0, []), some (.getfield 20, 3, 7, 1, 1, 0, [(0, 9)]), none, none, some (.invokevirtual 47, 3, 91, 0, 0, 0, [(0, 13)]), none, none, some (.if_icmp .ge 27, 3, 39, 0, 0, 0, []), none, none, 
  some (.iload_n 1, 1, 0, 0, 0, 0, []), some (.aload_n 0, 1, 0, 0, 0, 0, []), some (.iload_n 2, 1, 0, 0, 0, 0, []), some (.invokevirtual 51, 3, 62, 1, 0, 0, [(0, 29)]), none, none, some (.ifCond .eq 7, 3, 28, 0, 0, 0, []), 
  none, none, some (.iconst 0, 1, 0, 0, 0, 0, []), some (.goto 6, 3, 31, 0, 0, 0, []), none, none, some (.iconst 1, 1, 0, 0, 1, 0, []), some (.iload_n 2, 1, 0, 0, 0, 0, []), some (.ishl, 1, 0, 0, 0, 0, []), 
  some (.ior, 1, 0, 0, 0, 0, []), some (.istore_n 1, 1, 0, 0, 0, 0, []), some (.iinc 2 1, 3, 0, 0, 1, 0, []), none, none, some (.goto (-32), 3, 4, 0, 0, 0, []), none, none, some (.iload_n 1, 1, 0, 0, 0, 0, []), 
  some (.ireturn, 1, 0, 0, 0, 0, [])]
set_option maxRecDepth 100000 in
def cd64 : Cd := [some (.aload_n 0, 1, 0, 0, 0, 0, []), some (.getfield 20, 3, 7, 1, 1, 0, [(0, 9)]), none, none, some (.iload_n 1, 1, 0, 0, 0, 0, []), some (.bipush 12, 2, 0, 0, 12, 0, []), none, 
  some (.invokevirtual 43, 3, 94, 2, 0, 0, [(0, 14)]), none, none, some (.iload_n 2, 1, 0, 0, 0, 0, []), some (.ishr, 1, 0, 0, 0, 0, []), some (.iconst 1, 1, 0, 0, 1, 0, []), some (.iand, 1, 0, 0, 0, 0, []), 
  some (.iconst 1, 1, 0, 0, 1, 0, []), some (.if_icmp .ne 7, 3, 22, 0, 0, 0, []), none, none, some (.iconst 1, 1, 0, 0, 1, 0, []), some (.goto 4, 3, 23, 0, 0, 0, []), none, none, some (.iconst 0, 1, 0, 0, 0, 0, []), 
  some (.ireturn, 1, 0, 0, 0, 0, [])]
set_option maxRecDepth 100000 in
def cd65 : Cd := [some (.iconst 1, 1, 0, 0, 1, 0, []), some (.iload_n 2, 1, 0, 0, 0, 0, []), some (.ishl, 1, 0, 0, 0, 0, []), some (.istore 4, 2, 0, 0, 0, 0, []), none, some (.aload_n 0, 1, 0, 0, 0, 0, []), 
  some (.getfield 20, 3, 7, 1, 1, 0, [(0, 9)]), none, none, some (.iload_n 1, 1, 0, 0, 0, 0, []), some (.bipush 12, 2, 0, 0, 12, 0, []), none, some (.invokevirtual 43, 3, 94, 2, 0, 0, [(0, 14)]), none, none, 
  some (.istore 5, 2, 0, 0, 0, 0, []), none, some (.aload_n 0, 1, 0, 0, 0, 0, []), some (.getfield 20, 3, 7, 1, 1, 0, [(0, 9)]), none, none, some (.iload_n 1, 1, 0, 0, 0, 0, []), some (.bipush 12, 2, 0, 0, 12, 0, []), none, 
  some (.iload_n 3, 1, 0, 0, 0, 0, []), some (.ifCond .eq 11, 3, 36, 0, 0, 0, []), none, none, some (.iload 5, 2, 0, 0, 0, 0, []), none, some (.iload 4, 2, 0, 0, 0, 0, []), none, some (.ior, 1, 0, 0, 0, 0, []), 
  some (.goto 10, 3, 43, 0, 0, 0, []), none, none, some (.iload 5, 2, 0, 0, 0, 0, []), none, some (.iload 4, 2, 0, 0, 0, 0, []), none, some (.iconst (-1), 1, 0, 0, -1, 0, []), some (.ixor, 1, 0, 0, 0, 0, []), 
  some (.iand, 1, 0, 0, 0, 0, []), some (.invokevirtual 55, 3, 95, 3, 0, 0, [(0, 26)]), none, none, some (.return_, 1, 0, 0, 0, 0, [])]
set_option maxRecDepth 100000 in
def cd66 : Cd := [some (.aload_n 0, 1, 0, 0, 0, 0, []), some (.iload_n 1, 1, 0, 0, 0, 0, []), some (.invokevirtual 51, 3, 62, 1, 0, 0, [(0, 29)]), none, none, some (.ifCond .ne 78, 3, 83, 0, 0, 0, []), none, none, 
  some (.aload_n 0, 1, 0, 0, 0, 0, []), some (.getfield 20, 3, 7, 1, 1, 0, [(0, 9)]), none, none, some (.iload_n 1, 1, 0, 0, 0, 0, []), some (.iconst 0, 1, 0, 0, 0, 0, []), 
  some (.invokevirtual 43, 3, 94, 2, 0, 0, [(0, 14)]), none, none, some (.aload_n 0, 1, 0, 0, 0, 0, []), some (.getfield 14, 3, 7, 0, 0, 0, [(0, 4)]), none, none, some (.iload_n 2, 1, 0, 0, 0, 0, []), 
  some (.iconst 1, 1, 0, 0, 1, 0, []), some (.invokevirtual 43, 3, 94, 2, 0, 0, [(0, 14)]), none, none, some (.if_icmp .gt 57, 3, 83, 0, 0, 0, []), none, none, some (.aload_n 0, 1, 0, 0, 0, 0, []), 
  some (.getfield 20, 3, 7, 1, 1, 0, [(0, 9)]), none, none, some (.iload_n 1, 1, 0, 0, 0, 0, []), some (.iconst 1, 1, 0, 0, 1, 0, []), some (.invokevirtual 43, 3, 94, 2, 0, 0, [(0, 14)]), none, none, 
  some (.aload_n 0, 1, 0, 0, 0, 0, []), some (.getfield 14, 3, 7, 0, 0, 0, [(0, 4)]), none, none, some (.iload_n 2, 1, 0, 0, 0, 0, []), some (.iconst 2, 1, 0, 0, 2, 0, []), 
  some (.invokevirtual 43, 3, 94, 2, 0, 0, [(0, 14)]), none, none, some (.if_icmp .lt 36, 3, 83, 0, 0, 0, []), none, none, some (.aload_n 0, 1, 0, 0, 0, 0, []), some (.getfield 20, 3, 7, 1, 1, 0, [(0, 9)]), none, none, 
  some (.iload_n 1, 1, 0, 0, 0, 0, []), some (.bipush 9, 2, 0, 0, 9, 0, []), none, some (.invokevirtual 43, 3, 94, 2, 0, 0, [(0, 14)]), none, none, some (.aload_n 0, 1, 0, 0, 0, 0, []), 
  some (.getfield 32, 3, 7, 5, 5, 0, [(0, 24)]), none, none, some (.if_icmp .eq 19, 3, 83, 0, 0, 0, []), none, none, some (.aload_n 0, 1, 0, 0, 0, 0, []), some (.getfield 14, 3, 7, 0, 0, 0, [(0, 4)]), none, none, 
  some (.iload_n 2, 1, 0, 0, 0, 0, []), some (.iconst 4, 1, 0, 0, 4, 0, []), some (.invokevirtual 43, 3, 94, 2, 0, 0, [(0, 14)]), none, none, some (.ifCond .ne 7, 3, 83, 0, 0, 0, []), none, none, 
  some (.iconst 1, 1, 0, 0, 1, 0, []), some (.goto 4, 3, 84, 0, 0, 0, []), none, none, some (.iconst 0, 1, 0, 0, 0, 0, []), some (.ireturn, 1, 0, 0, 0, 0, [])]
set_option maxRecDepth 100000 in
def cd67 : Cd := [some (.iconst 0, 1, 0, 0, 0, 0, []), some (.istore_n 2, 1, 0, 0, 0, 0, []), some (.iconst 0, 1, 0, 0, 0, 0, []), some (.istore_n 3, 1, 0, 0, 0, 0, []), some (.iload_n 3, 1, 0, 0, 0, 0, []), 
  some (.aload_n 0, 1, 0, 0, 0, 0, []), some (.getfield 20, 3, 7, 1, 1, 0, [(0, 9)]), none, none, some (.invokevirtual 47, 3, 91, 0, 0, 0, [(0, 13)]), none, none, some (.if_icmp .ge 33, 3, 45, 0, 0, 0, []), none, none, 
  some (.iload_n 2, 1, 0, 0, 0, 0, []), some (.aload_n 0, 1, 0, 0, 0, 0, []), some (.getfield 20, 3, 7, 1, 1, 0, [(0, 9)]), none, none, some (.iload_n 3, 1, 0, 0, 0, 0, []), some (.bipush 8, 2, 0, 0, 8, 0, []), none, 
  some (.invokevirtual 43, 3, 94, 2, 0, 0, [(0, 14)]), none, none, some (.iload_n 1, 1, 0, 0, 0, 0, []), some (.if_icmp .ne 9, 3, 36, 0, 0, 0, []), none, none, some (.iconst 1, 1, 0, 0, 1, 0, []), 
  some (.iload_n 3, 1, 0, 0, 0, 0, []), some (.ishl, 1, 0, 0, 0, 0, []), some (.goto 4, 3, 37, 0, 0, 0, []), none, none, some (.iconst 0, 1, 0, 0, 0, 0, []), some (.ior, 1, 0, 0, 0, 0, []), 
  some (.istore_n 2, 1, 0, 0, 0, 0, []), some (.iinc 3 1, 3, 0, 0, 1, 0, []), none, none, some (.goto (-38), 3, 4, 0, 0, 0, []), none, none, some (.iload_n 2, 1, 0, 0, 0, 0, []), some (.ireturn, 1, 0, 0, 0, 0, [])]
set_option maxRecDepth 100000 in
def cd68 : Cd := [some (.aload_n 0, 1, 0, 0, 0, 0, []), some (.iload_n 2, 1, 0, 0, 0, 0, []), some (.invokevirtual 59, 3, 67, 1, 0, 0, [(0, 32)]), none, none, some (.iconst 1, 1, 0, 0, 1, 0, []), some (.iload_n 1, 1, 0, 0, 0, 0, []), 
  some (.ishl, 1, 0, 0, 0, 0, []), some (.iconst (-1), 1, 0, 0, -1, 0, []), some (.ixor, 1, 0, 0, 0, 0, []), some (.iand, 1, 0, 0, 0, 0, []), some (.istore_n 3, 1, 0, 0, 0, 0, []), some (.iload_n 3, 1, 0, 0, 0, 0, []), 
  some (.invokestatic 63, 3, 265, 1, 0, 0, [(0, 33)]), none, none, some (.aload_n 0, 1, 0, 0, 0, 0, []), some (.getfield 14, 3, 7, 0, 0, 0, [(0, 4)]), none, none, some (.iload_n 2, 1, 0, 0, 0, 0, []), 
  some (.iconst 0, 1, 0, 0, 0, 0, []), some (.invokevirtual 43, 3, 94, 2, 0, 0, [(0, 14)]), none, none, some (.if_icmp .ge 22, 3, 47, 0, 0, 0, []), none, none, some (.iload_n 3, 1, 0, 0, 0, 0, []), 
  some (.aload_n 0, 1, 0, 0, 0, 0, []), some (.getfield 20, 3, 7, 1, 1, 0, [(0, 9)]), none, none, some (.iload_n 1, 1, 0, 0, 0, 0, []), some (.bipush 12, 2, 0, 0, 12, 0, []), none, 
  some (.invokevirtual 43, 3, 94, 2, 0, 0, [(0, 14)]), none, none, some (.iand, 1, 0, 0, 0, 0, []), some (.ifCond .ne 7, 3, 47, 0, 0, 0, []), none, none, some (.iconst 1, 1, 0, 0, 1, 0, []), 
  some (.goto 4, 3, 48, 0, 0, 0, []), none, none, some (.iconst 0, 1, 0, 0, 0, 0, []), some (.ireturn, 1, 0, 0, 0, 0, [])]
set_option maxRecDepth 100000 in
def cd69 : Cd := [some (.aload_n 0, 1, 0, 0, 0, 0, []), some (.getfield 20, 3, 7, 1, 1, 0, [(0, 9)]), none, none, some (.iload_n 1, 1, 0, 0, 0, 0, []), some (.bipush 8, 2, 0, 0, 8, 0, []), none, 
  some (.invokevirtual 43, 3, 94, 2, 0, 0, [(0, 14)]), none, none, some (.iload_n 2, 1, 0, 0, 0, 0, []), some (.if_icmp .eq 20, 3, 31, 0, 0, 0, []), none, none, some (.aload_n 0, 1, 0, 0, 0, 0, []), 
  some (.iload_n 1, 1, 0, 0, 0, 0, []), some (.iconst 0, 1, 0, 0, 0, 0, []), some (.invokevirtual 68, 3, 70, 2, 0, 0, [(0, 35)]), none, none, some (.aload_n 0, 1, 0, 0, 0, 0, []), 
  some (.getfield 20, 3, 7, 1, 1, 0, [(0, 9)]), none, none, some (.iload_n 1, 1, 0, 0, 0, 0, []), some (.bipush 8, 2, 0, 0, 8, 0, []), none, some (.iload_n 2, 1, 0, 0, 0, 0, []), 
  some (.invokevirtual 55, 3, 95, 3, 0, 0, [(0, 26)]), none, none, some (.return_, 1, 0, 0, 0, 0, [])]
set_option maxRecDepth 100000 in
def cd70 : Cd := [some (.iconst 0, 1, 0, 0, 0, 0, []), some (.istore_n 3, 1, 0, 0, 0, 0, []), some (.iload_n 3, 1, 0, 0, 0, 0, []), some (.aload_n 0, 1, 0, 0, 0, 0, []), some (.getfield 23, 3, 7, 2, 2, 0, [(0, 15)]), none, none, 
  some (.invokevirtual 47, 3, 91, 0, 0, 0, [(0, 13)]), none, none, some (.if_icmp .ge 39, 3, 49, 0, 0, 0, []), none, none, some (.aload_n 0, 1, 0, 0, 0, 0, []), some (.iload_n 3, 1, 0, 0, 0, 0, []), 
  some (.iload_n 1, 1, 0, 0, 0, 0, []), some (.invokevirtual 71, 3, 71, 2, 0, 0, [(0, 36)]), none, none, some (.ifCond .eq 24, 3, 43, 0, 0, 0, []), none, none, some (.aload_n 0, 1, 0, 0, 0, 0, []), 
  some (.getfield 23, 3, 7, 2, 2, 0, [(0, 15)]), none, none, some (.iload_n 3, 1, 0, 0, 0, 0, []), some (.iconst 4, 1, 0, 0, 4, 0, []), some (.iload_n 2, 1, 0, 0, 0, 0, []), 
  some (.invokevirtual 55, 3, 95, 3, 0, 0, [(0, 26)]), none, none, some (.aload_n 0, 1, 0, 0, 0, 0, []), some (.getfield 23, 3, 7, 2, 2, 0, [(0, 15)]), none, none, some (.iload_n 3, 1, 0, 0, 0, 0, []), 
  some (.iconst 5, 1, 0, 0, 5, 0, []), some (.ldc 75, 2, 0, 0, -1000000005, 0, [(0, 7)]), none, some (.invokevirtual 55, 3, 95, 3, 0, 0, [(0, 26)]), none, none, some (.iinc 3 1, 3, 0, 0, 1, 0, []), none, none, 
  some (.goto (-44), 3, 2, 0, 0, 0, []), none, none, some (.return_, 1, 0, 0, 0, 0, [])]
set_option maxRecDepth 100000 in
def cd71 : Cd := [some (.aload_n 0, 1, 0, 0, 0, 0, []), some (.getfield 23, 3, 7, 2, 2, 0, [(0, 15)]), none, none, some (.iload_n 1, 1, 0, 0, 0, 0, []), some (.iconst 4, 1, 0, 0, 4, 0, []), 
  some (.invokevirtual 43, 3, 94, 2, 0, 0, [(0, 14)]), none, none, some (.iconst 1, 1, 0, 0, 1, 0, []), some (.if_icmp .ne 20, 3, 30, 0, 0, 0, []), none, none, some (.aload_n 0, 1, 0, 0, 0, 0, []), 
  some (.getfield 23, 3, 7, 2, 2, 0, [(0, 15)]), none, none, some (.iload_n 1, 1, 0, 0, 0, 0, []), some (.iconst 5, 1, 0, 0, 5, 0, []), some (.invokevirtual 43, 3, 94, 2, 0, 0, [(0, 14)]), none, none, 
  some (.iload_n 2, 1, 0, 0, 0, 0, []), some (.if_icmp .ne 7, 3, 30, 0, 0, 0, []), none, none, some (.iconst 1, 1, 0, 0, 1, 0, []), some (.goto 4, 3, 31, 0, 0, 0, []), none, none, some (.iconst 0, 1, 0, 0, 0, 0, []), 
  some (.ireturn, 1, 0, 0, 0, 0, [])]
set_option maxRecDepth 100000 in
def cd72 : Cd := [some (.iconst 0, 1, 0, 0, 0, 0, []), some (.istore_n 2, 1, 0, 0, 0, 0, []), some (.iconst 0, 1, 0, 0, 0, 0, []), some (.istore_n 3, 1, 0, 0, 0, 0, []), some (.iload_n 3, 1, 0, 0, 0, 0, []), 
  some (.aload_n 0, 1, 0, 0, 0, 0, []), some (.getfield 23, 3, 7, 2, 2, 0, [(0, 15)]), none, none, some (.invokevirtual 47, 3, 91, 0, 0, 0, [(0, 13)]), none, none, some (.if_icmp .ge 26, 3, 38, 0, 0, 0, []), none, none, 
  some (.iload_n 2, 1, 0, 0, 0, 0, []), some (.aload_n 0, 1, 0, 0, 0, 0, []), some (.iload_n 3, 1, 0, 0, 0, 0, []), some (.iload_n 1, 1, 0, 0, 0, 0, []), some (.invokevirtual 71, 3, 71, 2, 0, 0, [(0, 36)]), none, none, 
  some (.ifCond .eq 7, 3, 29, 0, 0, 0, []), none, none, some (.iconst 1, 1, 0, 0, 1, 0, []), some (.goto 4, 3, 30, 0, 0, 0, []), none, none, some (.iconst 0, 1, 0, 0, 0, 0, []), some (.iadd, 1, 0, 0, 0, 0, []), 
  some (.istore_n 2, 1, 0, 0, 0, 0, []), some (.iinc 3 1, 3, 0, 0, 1, 0, []), none, none, some (.goto (-31), 3, 4, 0, 0, 0, []), none, none, some (.iload_n 2, 1, 0, 0, 0, 0, []), some (.ireturn, 1, 0, 0, 0, 0, [])]
set_option maxRecDepth 100000 in
def cd73 : Cd := [some (.iconst 0, 1, 0, 0, 0, 0, []), some (.istore_n 1, 1, 0, 0, 0, 0, []), some (.iconst 0, 1, 0, 0, 0, 0, []), some (.istore_n 2, 1, 0, 0, 0, 0, []), some (.iload_n 2, 1, 0, 0, 0, 0, []), 
  some (.aload_n 0, 1, 0, 0, 0, 0, []), some (.getfield 20, 3, 7, 1, 1, 0, [(0, 9)]), none, none, some (.invokevirtual 47, 3, 91, 0, 0, 0, [(0, 13)]), none, none, some (.if_icmp .ge 32, 3, 44, 0, 0, 0, []), none, none, 
  some (.iload_n 1, 1, 0, 0, 0, 0, []), some (.aload_n 0, 1, 0, 0, 0, 0, []), some (.getfield 20, 3, 7, 1, 1, 0, [(0, 9)]), none, none, some (.iload_n 2, 1, 0, 0, 0, 0, []), some (.bipush 8, 2, 0, 0, 8, 0, []), none, 
  some (.invokevirtual 43, 3, 94, 2, 0, 0, [(0, 14)]), none, none, some (.ldc 75, 2, 0, 0, -1000000005, 0, [(0, 7)]), none, some (.if_icmp .ne 7, 3, 35, 0, 0, 0, []), none, none, some (.iconst 0, 1, 0, 0, 0, 0, []), 
  some (.goto 4, 3, 36, 0, 0, 0, []), none, none, some (.iconst 1, 1, 0, 0, 1, 0, []), some (.iadd, 1, 0, 0, 0, 0, []), some (.istore_n 1, 1, 0, 0, 0, 0, []), some (.iinc 2 1, 3, 0, 0, 1, 0, []), none, none, 
  some (.goto (-37), 3, 4, 0, 0, 0, []), none, none, some (.iload_n 1, 1, 0, 0, 0, 0, []), some (.ireturn, 1, 0, 0, 0, 0, [])]
set_option maxRecDepth 100000 in
def cd74 : Cd := [some (.aload_n 0, 1, 0, 0, 0, 0, []), some (.getfield 23, 3, 7, 2, 2, 0, [(0, 15)]), none, none, some (.iload_n 1, 1, 0, 0, 0, 0, []), some (.iconst 0, 1, 0, 0, 0, 0, []), 
  some (.invokevirtual 43, 3, 94, 2, 0, 0, [(0, 14)]), none, none, some (.istore_n 3, 1, 0, 0, 0, 0, []), some (.iconst 0, 1, 0, 0, 0, 0, []), some (.istore 4, 2, 0, 0, 0, 0, []), none, some (.iload 4, 2, 0, 0, 0, 0, []), 
  none, some (.bipush 6, 2, 0, 0, 6, 0, []), none, some (.if_icmp .ge 34, 3, 51, 0, 0, 0, []), none, none, some (.iload_n 3, 1, 0, 0, 0, 0, []), some (.ifCond .lt 30, 3, 51, 0, 0, 0, []), none, none, 
  some (.iload_n 3, 1, 0, 0, 0, 0, []), some (.getstatic 76, 3, 1200, 0, 0, 0, []), none, none, some (.arraylength, 1, 0, 0, 0, 0, []), some (.if_icmp .ge 22, 3, 51, 0, 0, 0, []), none, none, 
  some (.iload_n 3, 1, 0, 0, 0, 0, []), some (.iload_n 2, 1, 0, 0, 0, 0, []), some (.if_icmp .ne 5, 3, 39, 0, 0, 0, []), none, none, some (.iconst 1, 1, 0, 0, 1, 0, []), some (.ireturn, 1, 0, 0, 0, 0, []), 
  some (.getstatic 76, 3, 1200, 0, 0, 0, []), none, none, some (.iload_n 3, 1, 0, 0, 0, 0, []), some (.iaload, 1, 0, 0, 0, 0, []), some (.istore_n 3, 1, 0, 0, 0, 0, []), some (.iinc 4 1, 3, 0, 0, 1, 0, []), none, none, 
  some (.goto (-35), 3, 13, 0, 0, 0, []), none, none, some (.iconst 0, 1, 0, 0, 0, 0, []), some (.ireturn, 1, 0, 0, 0, 0, [])]
set_option maxRecDepth 100000 in
def cd75 : Cd := [some (.aload_n 0, 1, 0, 0, 0, 0, []), some (.getfield 23, 3, 7, 2, 2, 0, [(0, 15)]), none, none, some (.iload_n 1, 1, 0, 0, 0, 0, []), some (.iconst 1, 1, 0, 0, 1, 0, []), 
  some (.invokevirtual 43, 3, 94, 2, 0, 0, [(0, 14)]), none, none, some (.iload_n 2, 1, 0, 0, 0, 0, []), some (.if_icmp .ne 16, 3, 26, 0, 0, 0, []), none, none, some (.aload_n 0, 1, 0, 0, 0, 0, []), 
  some (.iload_n 1, 1, 0, 0, 0, 0, []), some (.iconst 1, 1, 0, 0, 1, 0, []), some (.invokevirtual 80, 3, 74, 2, 0, 0, [(0, 17)]), none, none, some (.ifCond .eq 7, 3, 26, 0, 0, 0, []), none, none, 
  some (.iconst 1, 1, 0, 0, 1, 0, []), some (.goto 4, 3, 27, 0, 0, 0, []), none, none, some (.iconst 0, 1, 0, 0, 0, 0, []), some (.ireturn, 1, 0, 0, 0, 0, [])]
set_option maxRecDepth 100000 in
def cd76 : Cd := [some (.iconst 0, 1, 0, 0, 0, 0, []), some (.istore_n 3, 1, 0, 0, 0, 0, []), some (.iconst 0, 1, 0, 0, 0, 0, []), some (.istore 4, 2, 0, 0, 0, 0, []), none, some (.iload 4, 2, 0, 0, 0, 0, []), none, 
  some (.aload_n 0, 1, 0, 0, 0, 0, []), some (.getfield 23, 3, 7, 2, 2, 0, [(0, 15)]), none, none, some (.invokevirtual 47, 3, 91, 0, 0, 0, [(0, 13)]), none, none, some (.if_icmp .ge 79, 3, 93, 0, 0, 0, []), none, none, 
  some (.iload_n 1, 1, 0, 0, 0, 0, []), some (.ldc 75, 2, 0, 0, -1000000005, 0, [(0, 7)]), none, some (.if_icmp .eq 17, 3, 37, 0, 0, 0, []), none, none, some (.aload_n 0, 1, 0, 0, 0, 0, []), 
  some (.getfield 23, 3, 7, 2, 2, 0, [(0, 15)]), none, none, some (.iload 4, 2, 0, 0, 0, 0, []), none, some (.iconst 1, 1, 0, 0, 1, 0, []), some (.invokevirtual 43, 3, 94, 2, 0, 0, [(0, 14)]), none, none, 
  some (.iload_n 1, 1, 0, 0, 0, 0, []), some (.if_icmp .ne 27, 3, 61, 0, 0, 0, []), none, none, some (.iload_n 2, 1, 0, 0, 0, 0, []), some (.ldc 75, 2, 0, 0, -1000000005, 0, [(0, 7)]), none, 
  some (.if_icmp .eq 17, 3, 57, 0, 0, 0, []), none, none, some (.aload_n 0, 1, 0, 0, 0, 0, []), some (.getfield 23, 3, 7, 2, 2, 0, [(0, 15)]), none, none, some (.iload 4, 2, 0, 0, 0, 0, []), none, 
  some (.iconst 4, 1, 0, 0, 4, 0, []), some (.invokevirtual 43, 3, 94, 2, 0, 0, [(0, 14)]), none, none, some (.iload_n 2, 1, 0, 0, 0, 0, []), some (.if_icmp .ne 7, 3, 61, 0, 0, 0, []), none, none, 
  some (.iconst 1, 1, 0, 0, 1, 0, []), some (.goto 4, 3, 62, 0, 0, 0, []), none, none, some (.iconst 0, 1, 0, 0, 0, 0, []), some (.istore 5, 2, 0, 0, 0, 0, []), none, some (.iload_n 3, 1, 0, 0, 0, 0, []), 
  some (.iload 5, 2, 0, 0, 0, 0, []), none, some (.ifCond .eq 17, 3, 84, 0, 0, 0, []), none, none, some (.aload_n 0, 1, 0, 0, 0, 0, []), some (.iload 4, 2, 0, 0, 0, 0, []), none, some (.iconst 1, 1, 0, 0, 1, 0, []), 
  some (.invokevirtual 80, 3, 74, 2, 0, 0, [(0, 17)]), none, none, some (.ifCond .eq 7, 3, 84, 0, 0, 0, []), none, none, some (.iconst 1, 1, 0, 0, 1, 0, []), some (.goto 4, 3, 85, 0, 0, 0, []), none, none, 
  some (.iconst 0, 1, 0, 0, 0, 0, []), some (.iadd, 1, 0, 0, 0, 0, []), some (.istore_n 3, 1, 0, 0, 0, 0, []), some (.iinc 4 1, 3, 0, 0, 1, 0, []), none, none, some (.goto (-85), 3, 5, 0, 0, 0, []), none, none, 
  some (.iload_n 3, 1, 0, 0, 0, 0, []), some (.ireturn, 1, 0, 0, 0, 0, [])]
set_option maxRecDepth 100000 in
def cd77 : Cd := [some (.aload_n 0, 1, 0, 0, 0, 0, []), some (.getfield 23, 3, 7, 2, 2, 0, [(0, 15)]), none, none, some (.iload_n 2, 1, 0, 0, 0, 0, []), some (.iconst 1, 1, 0, 0, 1, 0, []), 
  some (.invokevirtual 43, 3, 94, 2, 0, 0, [(0, 14)]), none, none, some (.istore_n 3, 1, 0, 0, 0, 0, []), some (.aload_n 0, 1, 0, 0, 0, 0, []), some (.getfield 23, 3, 7, 2, 2, 0, [(0, 15)]), none, none, 
  some (.iload_n 2, 1, 0, 0, 0, 0, []), some (.iconst 4, 1, 0, 0, 4, 0, []), some (.invokevirtual 43, 3, 94, 2, 0, 0, [(0, 14)]), none, none, some (.ifCond .ne 76, 3, 95, 0, 0, 0, []), none, none, 
  some (.aload_n 0, 1, 0, 0, 0, 0, []), some (.getfield 20, 3, 7, 1, 1, 0, [(0, 9)]), none, none, some (.iload_n 1, 1, 0, 0, 0, 0, []), some (.bipush 8, 2, 0, 0, 8, 0, []), none, 
  some (.invokevirtual 43, 3, 94, 2, 0, 0, [(0, 14)]), none, none, some (.iload_n 3, 1, 0, 0, 0, 0, []), some (.if_icmp .ne 62, 3, 95, 0, 0, 0, []), none, none, some (.aload_n 0, 1, 0, 0, 0, 0, []), 
  some (.getfield 14, 3, 7, 0, 0, 0, [(0, 4)]), none, none, some (.iload_n 3, 1, 0, 0, 0, 0, []), some (.bipush 7, 2, 0, 0, 7, 0, []), none, some (.invokevirtual 43, 3, 94, 2, 0, 0, [(0, 14)]), none, none, 
  some (.ifCond .ne 49, 3, 95, 0, 0, 0, []), none, none, some (.aload_n 0, 1, 0, 0, 0, 0, []), some (.getfield 14, 3, 7, 0, 0, 0, [(0, 4)]), none, none, some (.iload_n 3, 1, 0, 0, 0, 0, []), 
  some (.iconst 4, 1, 0, 0, 4, 0, []), some (.invokevirtual 43, 3, 94, 2, 0, 0, [(0, 14)]), none, none, some (.ifCond .ne 37, 3, 95, 0, 0, 0, []), none, none, some (.aload_n 0, 1, 0, 0, 0, 0, []), 
  some (.iload_n 2, 1, 0, 0, 0, 0, []), some (.iconst 2, 1, 0, 0, 2, 0, []), some (.invokevirtual 80, 3, 74, 2, 0, 0, [(0, 17)]), none, none, some (.ifCond .eq 24, 3, 91, 0, 0, 0, []), none, none, 
  some (.aload_n 0, 1, 0, 0, 0, 0, []), some (.getfield 20, 3, 7, 1, 1, 0, [(0, 9)]), none, none, some (.iload_n 1, 1, 0, 0, 0, 0, []), some (.iconst 0, 1, 0, 0, 0, 0, []), 
  some (.invokevirtual 43, 3, 94, 2, 0, 0, [(0, 14)]), none, none, some (.aload_n 0, 1, 0, 0, 0, 0, []), some (.getfield 23, 3, 7, 2, 2, 0, [(0, 15)]), none, none, some (.iload_n 2, 1, 0, 0, 0, 0, []), 
  some (.iconst 2, 1, 0, 0, 2, 0, []), some (.invokevirtual 43, 3, 94, 2, 0, 0, [(0, 14)]), none, none, some (.if_icmp .gt 7, 3, 95, 0, 0, 0, []), none, none, some (.iconst 1, 1, 0, 0, 1, 0, []), 
  some (.goto 4, 3, 96, 0, 0, 0, []), none, none, some (.iconst 0, 1, 0, 0, 0, 0, []), some (.ireturn, 1, 0, 0, 0, 0, [])]
set_option maxRecDepth 100000 in
def cd78 : Cd := [some (.aload_n 0, 1, 0, 0, 0, 0, []), some (.getfield 23, 3, 7, 2, 2, 0, [(0, 15)]), none, none, some (.iload_n 1, 1, 0, 0, 0, 0, []), some (.iconst 4, 1, 0, 0, 4, 0, []), 
  some (.invokevirtual 43, 3, 94, 2, 0, 0, [(0, 14)]), none, none, some (.istore_n 3, 1, 0, 0, 0, 0, []), some (.iload_n 3, 1, 0, 0, 0, 0, []), some (.ifCond .ne 11, 3, 22, 0, 0, 0, []), none, none, 
  some (.iload_n 2, 1, 0, 0, 0, 0, []), some (.ifCond .ne 7, 3, 22, 0, 0, 0, []), none, none, some (.iconst 1, 1, 0, 0, 1, 0, []), some (.goto 4, 3, 23, 0, 0, 0, []), none, none, some (.iconst 0, 1, 0, 0, 0, 0, []), 
  some (.istore 4, 2, 0, 0, 0, 0, []), none, some (.iload 4, 2, 0, 0, 0, 0, []), none, some (.ifCond .eq 27, 3, 54, 0, 0, 0, []), none, none, some (.aload_n 0, 1, 0, 0, 0, 0, []), 
  some (.getfield 23, 3, 7, 2, 2, 0, [(0, 15)]), none, none, some (.iload_n 1, 1, 0, 0, 0, 0, []), some (.bipush 7, 2, 0, 0, 7, 0, []), none, some (.invokevirtual 43, 3, 94, 2, 0, 0, [(0, 14)]), none, none, 
  some (.iconst 1, 1, 0, 0, 1, 0, []), some (.if_icmp .ne 13, 3, 54, 0, 0, 0, []), none, none, some (.aload_n 0, 1, 0, 0, 0, 0, []), some (.getfield 23, 3, 7, 2, 2, 0, [(0, 15)]), none, none, 
  some (.iload_n 1, 1, 0, 0, 0, 0, []), some (.iconst 4, 1, 0, 0, 4, 0, []), some (.iconst 2, 1, 0, 0, 2, 0, []), some (.invokevirtual 55, 3, 95, 3, 0, 0, [(0, 26)]), none, none, some (.aload_n 0, 1, 0, 0, 0, 0, []), 
  some (.getfield 23, 3, 7, 2, 2, 0, [(0, 15)]), none, none, some (.iload_n 1, 1, 0, 0, 0, 0, []), some (.bipush 7, 2, 0, 0, 7, 0, []), none, some (.iload 4, 2, 0, 0, 0, 0, []), none, 
  some (.ifCond .eq 7, 3, 70, 0, 0, 0, []), none, none, some (.iconst 1, 1, 0, 0, 1, 0, []), some (.goto 4, 3, 71, 0, 0, 0, []), none, none, some (.iconst 0, 1, 0, 0, 0, 0, []), 
  some (.invokevirtual 55, 3, 95, 3, 0, 0, [(0, 26)]), none, none, some (.iload 4, 2, 0, 0, 0, 0, []), none, some (.ifCond .ne 16, 3, 92, 0, 0, 0, []), none, none, some (.iload_n 3, 1, 0, 0, 0, 0, []), 
  some (.iconst 1, 1, 0, 0, 1, 0, []), some (.if_icmp .ne 7, 3, 88, 0, 0, 0, []), none, none, some (.iload_n 2, 1, 0, 0, 0, 0, []), some (.ifCond .ne 7, 3, 92, 0, 0, 0, []), none, none, some (.iconst 1, 1, 0, 0, 1, 0, []), 
  some (.goto 4, 3, 93, 0, 0, 0, []), none, none, some (.iconst 0, 1, 0, 0, 0, 0, []), some (.ireturn, 1, 0, 0, 0, 0, [])]
set_option maxRecDepth 100000 in
def cd79 : Cd := [some (.aload_n 0, 1, 0, 0, 0, 0, []), some (.getfield 23, 3, 7, 2, 2, 0, [(0, 15)]), none, none, some (.iload_n 1, 1, 0, 0, 0, 0, []), some (.bipush 6, 2, 0, 0, 6, 0, []), none, 
  some (.invokevirtual 43, 3, 94, 2, 0, 0, [(0, 14)]), none, none, some (.ldc 75, 2, 0, 0, -1000000005, 0, [(0, 7)]), none, some (.if_icmp .ne 16, 3, 28, 0, 0, 0, []), none, none, some (.aload_n 0, 1, 0, 0, 0, 0, []), 
  some (.iload_n 1, 1, 0, 0, 0, 0, []), some (.iconst 5, 1, 0, 0, 5, 0, []), some (.invokevirtual 80, 3, 74, 2, 0, 0, [(0, 17)]), none, none, some (.ifCond .eq 7, 3, 28, 0, 0, 0, []), none, none, 
  some (.iconst 1, 1, 0, 0, 1, 0, []), some (.goto 4, 3, 29, 0, 0, 0, []), none, none, some (.iconst 0, 1, 0, 0, 0, 0, []), some (.ireturn, 1, 0, 0, 0, 0, [])]
set_option maxRecDepth 100000 in
def cd80 : Cd := [some (.iconst 0, 1, 0, 0, 0, 0, []), some (.istore_n 1, 1, 0, 0, 0, 0, []), some (.iconst 0, 1, 0, 0, 0, 0, []), some (.istore_n 2, 1, 0, 0, 0, 0, []), some (.iload_n 2, 1, 0, 0, 0, 0, []), 
  some (.aload_n 0, 1, 0, 0, 0, 0, []), some (.getfield 23, 3, 7, 2, 2, 0, [(0, 15)]), none, none, some (.invokevirtual 47, 3, 91, 0, 0, 0, [(0, 13)]), none, none, some (.if_icmp .ge 25, 3, 37, 0, 0, 0, []), none, none, 
  some (.iload_n 1, 1, 0, 0, 0, 0, []), some (.aload_n 0, 1, 0, 0, 0, 0, []), some (.iload_n 2, 1, 0, 0, 0, 0, []), some (.invokevirtual 83, 3, 79, 1, 0, 0, [(0, 76)]), none, none, some (.ifCond .eq 7, 3, 28, 0, 0, 0, []), 
  none, none, some (.iconst 1, 1, 0, 0, 1, 0, []), some (.goto 4, 3, 29, 0, 0, 0, []), none, none, some (.iconst 0, 1, 0, 0, 0, 0, []), some (.iadd, 1, 0, 0, 0, 0, []), some (.istore_n 1, 1, 0, 0, 0, 0, []), 
  some (.iinc 2 1, 3, 0, 0, 1, 0, []), none, none, some (.goto (-30), 3, 4, 0, 0, 0, []), none, none, some (.iload_n 1, 1, 0, 0, 0, 0, []), some (.ireturn, 1, 0, 0, 0, 0, [])]
set_option maxRecDepth 100000 in
def cd81 : Cd := [some (.ldc 75, 2, 0, 0, -1000000005, 0, [(0, 7)]), none, some (.istore_n 3, 1, 0, 0, 0, 0, []), some (.iconst 0, 1, 0, 0, 0, 0, []), some (.istore 4, 2, 0, 0, 0, 0, []), none, some (.iload 4, 2, 0, 0, 0, 0, []), none, 
  some (.aload_n 0, 1, 0, 0, 0, 0, []), some (.getfield 23, 3, 7, 2, 2, 0, [(0, 15)]), none, none, some (.invokevirtual 47, 3, 91, 0, 0, 0, [(0, 13)]), none, none, some (.if_icmp .ge 67, 3, 82, 0, 0, 0, []), none, none, 
  some (.aload_n 0, 1, 0, 0, 0, 0, []), some (.getfield 23, 3, 7, 2, 2, 0, [(0, 15)]), none, none, some (.iload 4, 2, 0, 0, 0, 0, []), none, some (.iconst 1, 1, 0, 0, 1, 0, []), 
  some (.invokevirtual 43, 3, 94, 2, 0, 0, [(0, 14)]), none, none, some (.iload_n 1, 1, 0, 0, 0, 0, []), some (.if_icmp .ne 47, 3, 76, 0, 0, 0, []), none, none, some (.aload_n 0, 1, 0, 0, 0, 0, []), 
  some (.iload 4, 2, 0, 0, 0, 0, []), none, some (.invokevirtual 83, 3, 79, 1, 0, 0, [(0, 76)]), none, none, some (.ifCond .eq 38, 3, 76, 0, 0, 0, []), none, none, some (.iload_n 2, 1, 0, 0, 0, 0, []), 
  some (.ldc 75, 2, 0, 0, -1000000005, 0, [(0, 7)]), none, some (.if_icmp .eq 13, 3, 57, 0, 0, 0, []), none, none, some (.aload_n 0, 1, 0, 0, 0, 0, []), some (.iload_n 2, 1, 0, 0, 0, 0, []), 
  some (.iload 4, 2, 0, 0, 0, 0, []), none, some (.invokevirtual 86, 3, 82, 2, 0, 0, [(0, 77)]), none, none, some (.ifCond .eq 22, 3, 76, 0, 0, 0, []), none, none, some (.iload_n 3, 1, 0, 0, 0, 0, []), 
  some (.ldc 75, 2, 0, 0, -1000000005, 0, [(0, 7)]), none, some (.if_icmp .eq 13, 3, 73, 0, 0, 0, []), none, none, some (.aload_n 0, 1, 0, 0, 0, 0, []), some (.iload 4, 2, 0, 0, 0, 0, []), none, 
  some (.iload_n 3, 1, 0, 0, 0, 0, []), some (.invokevirtual 86, 3, 82, 2, 0, 0, [(0, 77)]), none, none, some (.ifCond .eq 6, 3, 76, 0, 0, 0, []), none, none, some (.iload 4, 2, 0, 0, 0, 0, []), none, 
  some (.istore_n 3, 1, 0, 0, 0, 0, []), some (.iinc 4 1, 3, 0, 0, 1, 0, []), none, none, some (.goto (-73), 3, 6, 0, 0, 0, []), none, none, some (.iload_n 3, 1, 0, 0, 0, 0, []), some (.ireturn, 1, 0, 0, 0, 0, [])]
set_option maxRecDepth 100000 in
def cd82 : Cd := [some (.aload_n 0, 1, 0, 0, 0, 0, []), some (.getfield 23, 3, 7, 2, 2, 0, [(0, 15)]), none, none, some (.iload_n 1, 1, 0, 0, 0, 0, []), some (.iconst 3, 1, 0, 0, 3, 0, []), 
  some (.invokevirtual 43, 3, 94, 2, 0, 0, [(0, 14)]), none, none, some (.istore_n 3, 1, 0, 0, 0, 0, []), some (.aload_n 0, 1, 0, 0, 0, 0, []), some (.getfield 23, 3, 7, 2, 2, 0, [(0, 15)]), none, none, 
  some (.iload_n 2, 1, 0, 0, 0, 0, []), some (.iconst 3, 1, 0, 0, 3, 0, []), some (.invokevirtual 43, 3, 94, 2, 0, 0, [(0, 14)]), none, none, some (.istore 4, 2, 0, 0, 0, 0, []), none, some (.iload_n 3, 1, 0, 0, 0, 0, []), 
  some (.iload 4, 2, 0, 0, 0, 0, []), none, some (.if_icmp .lt 14, 3, 38, 0, 0, 0, []), none, none, some (.iload_n 3, 1, 0, 0, 0, 0, []), some (.iload 4, 2, 0, 0, 0, 0, []), none, some (.if_icmp .ne 12, 3, 42, 0, 0, 0, []), 
  none, none, some (.iload_n 1, 1, 0, 0, 0, 0, []), some (.iload_n 2, 1, 0, 0, 0, 0, []), some (.if_icmp .ge 7, 3, 42, 0, 0, 0, []), none, none, some (.iconst 1, 1, 0, 0, 1, 0, []), some (.goto 4, 3, 43, 0, 0, 0, []), none, 
  none, some (.iconst 0, 1, 0, 0, 0, 0, []), some (.ireturn, 1, 0, 0, 0, 0, [])]
set_option maxRecDepth 100000 in
def cd83 : Cd := [some (.ldc 75, 2, 0, 0, -1000000005, 0, [(0, 7)]), none, some (.istore_n 2, 1, 0, 0, 0, 0, []), some (.iconst 0, 1, 0, 0, 0, 0, []), some (.istore_n 3, 1, 0, 0, 0, 0, []), some (.iload_n 3, 1, 0, 0, 0, 0, []), 
  some (.aload_n 0, 1, 0, 0, 0, 0, []), some (.getfield 26, 3, 7, 3, 3, 0, [(0, 19)]), none, none, some (.invokevirtual 47, 3, 91, 0, 0, 0, [(0, 13)]), none, none, some (.if_icmp .ge 64, 3, 77, 0, 0, 0, []), none, none, 
  some (.aload_n 0, 1, 0, 0, 0, 0, []), some (.getfield 26, 3, 7, 3, 3, 0, [(0, 19)]), none, none, some (.iload_n 3, 1, 0, 0, 0, 0, []), some (.iconst 1, 1, 0, 0, 1, 0, []), 
  some (.invokevirtual 43, 3, 94, 2, 0, 0, [(0, 14)]), none, none, some (.istore 4, 2, 0, 0, 0, 0, []), none, some (.aload_n 0, 1, 0, 0, 0, 0, []), some (.getfield 26, 3, 7, 3, 3, 0, [(0, 19)]), none, none, 
  some (.iload_n 3, 1, 0, 0, 0, 0, []), some (.iconst 0, 1, 0, 0, 0, 0, []), some (.invokevirtual 43, 3, 94, 2, 0, 0, [(0, 14)]), none, none, some (.iload_n 1, 1, 0, 0, 0, 0, []), some (.if_icmp .ne 34, 3, 71, 0, 0, 0, []), 
  none, none, some (.iload 4, 2, 0, 0, 0, 0, []), none, some (.aload_n 0, 1, 0, 0, 0, 0, []), some (.getfield 32, 3, 7, 5, 5, 0, [(0, 24)]), none, none, some (.if_icmp .gt 25, 3, 71, 0, 0, 0, []), none, none, 
  some (.iload_n 2, 1, 0, 0, 0, 0, []), some (.ldc 75, 2, 0, 0, -1000000005, 0, [(0, 7)]), none, some (.if_icmp .eq 17, 3, 69, 0, 0, 0, []), none, none, some (.iload 4, 2, 0, 0, 0, 0, []), none, 
  some (.aload_n 0, 1, 0, 0, 0, 0, []), some (.getfield 26, 3, 7, 3, 3, 0, [(0, 19)]), none, none, some (.iload_n 2, 1, 0, 0, 0, 0, []), some (.iconst 1, 1, 0, 0, 1, 0, []), 
  some (.invokevirtual 43, 3, 94, 2, 0, 0, [(0, 14)]), none, none, some (.if_icmp .lt 5, 3, 71, 0, 0, 0, []), none, none, some (.iload_n 3, 1, 0, 0, 0, 0, []), some (.istore_n 2, 1, 0, 0, 0, 0, []), 
  some (.iinc 3 1, 3, 0, 0, 1, 0, []), none, none, some (.goto (-69), 3, 5, 0, 0, 0, []), none, none, some (.iload_n 2, 1, 0, 0, 0, 0, []), some (.ireturn, 1, 0, 0, 0, 0, [])]
set_option maxRecDepth 100000 in
def cd84 : Cd := [some (.aload_n 0, 1, 0, 0, 0, 0, []), some (.getfield 20, 3, 7, 1, 1, 0, [(0, 9)]), none, none, some (.iload_n 1, 1, 0, 0, 0, 0, []), some (.iload_n 2, 1, 0, 0, 0, 0, []), some (.ldc 89, 2, 0, 0, 99999, 0, [(0, 14)]), 
  none, some (.aload_n 0, 1, 0, 0, 0, 0, []), some (.getfield 20, 3, 7, 1, 1, 0, [(0, 9)]), none, none, some (.iload_n 1, 1, 0, 0, 0, 0, []), some (.iload_n 2, 1, 0, 0, 0, 0, []), 
  some (.invokevirtual 43, 3, 94, 2, 0, 0, [(0, 14)]), none, none, some (.iload_n 3, 1, 0, 0, 0, 0, []), some (.iadd, 1, 0, 0, 0, 0, []), some (.invokestatic 90, 3, 1002, 2, 0, 0, [(0, 13)]), none, none, 
  some (.invokevirtual 55, 3, 95, 3, 0, 0, [(0, 26)]), none, none, some (.return_, 1, 0, 0, 0, 0, [])]
set_option maxRecDepth 100000 in
def cd85 : Cd := [some (.aload_n 0, 1, 0, 0, 0, 0, []), some (.getfield 29, 3, 7, 4, 4, 0, [(0, 22)]), none, none, some (.invokevirtual 95, 3, 98, 0, 0, 0, [(0, 140)]), none, none, some (.istore_n 3, 1, 0, 0, 0, 0, []), 
  some (.aload_n 0, 1, 0, 0, 0, 0, []), some (.getfield 29, 3, 7, 4, 4, 0, [(0, 22)]), none, none, some (.iload_n 3, 1, 0, 0, 0, 0, []), some (.iconst 0, 1, 0, 0, 0, 0, []), some (.iload_n 1, 1, 0, 0, 0, 0, []), 
  some (.invokevirtual 55, 3, 95, 3, 0, 0, [(0, 26)]), none, none, some (.aload_n 0, 1, 0, 0, 0, 0, []), some (.getfield 29, 3, 7, 4, 4, 0, [(0, 22)]), none, none, some (.iload_n 3, 1, 0, 0, 0, 0, []), 
  some (.iconst 1, 1, 0, 0, 1, 0, []), some (.iload_n 2, 1, 0, 0, 0, 0, []), some (.invokevirtual 55, 3, 95, 3, 0, 0, [(0, 26)]), none, none, some (.aload_n 0, 1, 0, 0, 0, 0, []), 
  some (.getfield 29, 3, 7, 4, 4, 0, [(0, 22)]), none, none, some (.iload_n 3, 1, 0, 0, 0, 0, []), some (.iconst 2, 1, 0, 0, 2, 0, []), some (.aload_n 0, 1, 0, 0, 0, 0, []), some (.getfield 32, 3, 7, 5, 5, 0, [(0, 24)]), 
  none, none, some (.invokevirtual 55, 3, 95, 3, 0, 0, [(0, 26)]), none, none, some (.aload_n 0, 1, 0, 0, 0, 0, []), some (.getfield 29, 3, 7, 4, 4, 0, [(0, 22)]), none, none, some (.iload_n 3, 1, 0, 0, 0, 0, []), 
  some (.iconst 3, 1, 0, 0, 3, 0, []), some (.ldc 75, 2, 0, 0, -1000000005, 0, [(0, 7)]), none, some (.invokevirtual 55, 3, 95, 3, 0, 0, [(0, 26)]), none, none, some (.iload_n 3, 1, 0, 0, 0, 0, []), 
  some (.ireturn, 1, 0, 0, 0, 0, [])]
set_option maxRecDepth 100000 in
def cd86 : Cd := [some (.aload_n 0, 1, 0, 0, 0, 0, []), some (.getfield 20, 3, 7, 1, 1, 0, [(0, 9)]), none, none, some (.iload_n 1, 1, 0, 0, 0, 0, []), some (.iconst 2, 1, 0, 0, 2, 0, []), 
  some (.invokevirtual 43, 3, 94, 2, 0, 0, [(0, 14)]), none, none, some (.istore_n 3, 1, 0, 0, 0, 0, []), some (.iconst 0, 1, 0, 0, 0, 0, []), some (.istore 4, 2, 0, 0, 0, 0, []), none, some (.iload 4, 2, 0, 0, 0, 0, []), 
  none, some (.aload_n 0, 1, 0, 0, 0, 0, []), some (.getfield 29, 3, 7, 4, 4, 0, [(0, 22)]), none, none, some (.invokevirtual 47, 3, 91, 0, 0, 0, [(0, 13)]), none, none, some (.if_icmp .ge 46, 3, 68, 0, 0, 0, []), none, 
  none, some (.aload_n 0, 1, 0, 0, 0, 0, []), some (.getfield 29, 3, 7, 4, 4, 0, [(0, 22)]), none, none, some (.iload 4, 2, 0, 0, 0, 0, []), none, some (.iconst 0, 1, 0, 0, 0, 0, []), 
  some (.invokevirtual 43, 3, 94, 2, 0, 0, [(0, 14)]), none, none, some (.iload_n 1, 1, 0, 0, 0, 0, []), some (.if_icmp .ne 26, 3, 62, 0, 0, 0, []), none, none, some (.aload_n 0, 1, 0, 0, 0, 0, []), 
  some (.iload 4, 2, 0, 0, 0, 0, []), none, some (.iload_n 2, 1, 0, 0, 0, 0, []), some (.invokevirtual 98, 3, 87, 2, 0, 0, [(0, 146)]), none, none, some (.ifCond .eq 16, 3, 62, 0, 0, 0, []), none, none, 
  some (.iload_n 3, 1, 0, 0, 0, 0, []), some (.aload_n 0, 1, 0, 0, 0, 0, []), some (.getfield 29, 3, 7, 4, 4, 0, [(0, 22)]), none, none, some (.iload 4, 2, 0, 0, 0, 0, []), none, some (.iconst 1, 1, 0, 0, 1, 0, []), 
  some (.invokevirtual 43, 3, 94, 2, 0, 0, [(0, 14)]), none, none, some (.isub, 1, 0, 0, 0, 0, []), some (.istore_n 3, 1, 0, 0, 0, 0, []), some (.iinc 4 1, 3, 0, 0, 1, 0, []), none, none, 
  some (.goto (-52), 3, 13, 0, 0, 0, []), none, none, some (.iload_n 3, 1, 0, 0, 0, 0, []), some (.ireturn, 1, 0, 0, 0, 0, [])]
set_option maxRecDepth 100000 in
def cd87 : Cd := [some (.aload_n 0, 1, 0, 0, 0, 0, []), some (.getfield 29, 3, 7, 4, 4, 0, [(0, 22)]), none, none, some (.iload_n 1, 1, 0, 0, 0, 0, []), some (.iconst 3, 1, 0, 0, 3, 0, []), 
  some (.invokevirtual 43, 3, 94, 2, 0, 0, [(0, 14)]), none, none, some (.istore_n 3, 1, 0, 0, 0, 0, []), some (.aload_n 0, 1, 0, 0, 0, 0, []), some (.getfield 29, 3, 7, 4, 4, 0, [(0, 22)]), none, none, 
  some (.iload_n 1, 1, 0, 0, 0, 0, []), some (.iconst 2, 1, 0, 0, 2, 0, []), some (.invokevirtual 43, 3, 94, 2, 0, 0, [(0, 14)]), none, none, some (.iload_n 2, 1, 0, 0, 0, 0, []), some (.if_icmp .gt 18, 3, 38, 0, 0, 0, []), 
  none, none, some (.iload_n 3, 1, 0, 0, 0, 0, []), some (.ldc 75, 2, 0, 0, -1000000005, 0, [(0, 7)]), none, some (.if_icmp .eq 8, 3, 34, 0, 0, 0, []), none, none, some (.iload_n 3, 1, 0, 0, 0, 0, []), 
  some (.iload_n 2, 1, 0, 0, 0, 0, []), some (.if_icmp .le 7, 3, 38, 0, 0, 0, []), none, none, some (.iconst 1, 1, 0, 0, 1, 0, []), some (.goto 4, 3, 39, 0, 0, 0, []), none, none, some (.iconst 0, 1, 0, 0, 0, 0, []), 
  some (.ireturn, 1, 0, 0, 0, 0, [])]
set_option maxRecDepth 100000 in
def cd88 : Cd := [some (.aload_n 0, 1, 0, 0, 0, 0, []), some (.aload_n 0, 1, 0, 0, 0, 0, []), some (.getfield 36, 3, 7, 6, 6, 0, [(0, 29)]), none, none, some (.sipush 25173, 3, 0, 0, 25173, 0, []), none, none, 
  some (.imul, 1, 0, 0, 0, 0, []), some (.sipush 13849, 3, 0, 0, 13849, 0, []), none, none, some (.iadd, 1, 0, 0, 0, 0, []), some (.ldc 101, 2, 0, 0, 65536, 0, [(0, 17)]), none, some (.irem, 1, 0, 0, 0, 0, []), 
  some (.putfield 36, 3, 7, 6, 6, 0, [(0, 29)]), none, none, some (.iload_n 1, 1, 0, 0, 0, 0, []), some (.invokestatic 63, 3, 265, 1, 0, 0, [(0, 33)]), none, none, some (.istore_n 2, 1, 0, 0, 0, 0, []), 
  some (.iload_n 2, 1, 0, 0, 0, 0, []), some (.ifCond .le 12, 3, 37, 0, 0, 0, []), none, none, some (.aload_n 0, 1, 0, 0, 0, 0, []), some (.getfield 36, 3, 7, 6, 6, 0, [(0, 29)]), none, none, 
  some (.iload_n 2, 1, 0, 0, 0, 0, []), some (.irem, 1, 0, 0, 0, 0, []), some (.goto 4, 3, 38, 0, 0, 0, []), none, none, some (.iconst 0, 1, 0, 0, 0, 0, []), some (.istore_n 3, 1, 0, 0, 0, 0, []), 
  some (.iconst 0, 1, 0, 0, 0, 0, []), some (.istore 4, 2, 0, 0, 0, 0, []), none, some (.iload 4, 2, 0, 0, 0, 0, []), none, some (.bipush 10, 2, 0, 0, 10, 0, []), none, some (.if_icmp .ge 51, 3, 97, 0, 0, 0, []), none, 
  none, some (.iload_n 1, 1, 0, 0, 0, 0, []), some (.iload 4, 2, 0, 0, 0, 0, []), none, some (.ishr, 1, 0, 0, 0, 0, []), some (.iconst 1, 1, 0, 0, 1, 0, []), some (.iand, 1, 0, 0, 0, 0, []), 
  some (.iconst 1, 1, 0, 0, 1, 0, []), some (.if_icmp .ne 7, 3, 63, 0, 0, 0, []), none, none, some (.iconst 1, 1, 0, 0, 1, 0, []), some (.goto 4, 3, 64, 0, 0, 0, []), none, none, some (.iconst 0, 1, 0, 0, 0, 0, []), 
  some (.istore 5, 2, 0, 0, 0, 0, []), none, some (.iload 5, 2, 0, 0, 0, 0, []), none, some (.ifCond .eq 10, 3, 78, 0, 0, 0, []), none, none, some (.iload_n 3, 1, 0, 0, 0, 0, []), some (.ifCond .ne 6, 3, 78, 0, 0, 0, []), 
  none, none, some (.iload 4, 2, 0, 0, 0, 0, []), none, some (.ireturn, 1, 0, 0, 0, 0, []), some (.iload_n 3, 1, 0, 0, 0, 0, []), some (.iload 5, 2, 0, 0, 0, 0, []), none, some (.ifCond .eq 7, 3, 88, 0, 0, 0, []), none, 
  none, some (.iconst 1, 1, 0, 0, 1, 0, []), some (.goto 4, 3, 89, 0, 0, 0, []), none, none, some (.iconst 0, 1, 0, 0, 0, 0, []), some (.isub, 1, 0, 0, 0, 0, []), some (.istore_n 3, 1, 0, 0, 0, 0, []), 
  some (.iinc 4 1, 3, 0, 0, 1, 0, []), none, none, some (.goto (-52), 3, 42, 0, 0, 0, []), none, none, some (.iconst 0, 1, 0, 0, 0, 0, []), some (.ireturn, 1, 0, 0, 0, 0, [])]
set_option maxRecDepth 100000 in
def cd89 : Cd := [some (.iconst 0, 1, 0, 0, 0, 0, []), some (.istore_n 1, 1, 0, 0, 0, 0, []), some (.iconst 0, 1, 0, 0, 0, 0, []), some (.istore_n 2, 1, 0, 0, 0, 0, []), some (.iload_n 2, 1, 0, 0, 0, 0, []), 
  some (.aload_n 0, 1, 0, 0, 0, 0, []), some (.getfield 20, 3, 7, 1, 1, 0, [(0, 9)]), none, none, some (.invokevirtual 47, 3, 91, 0, 0, 0, [(0, 13)]), none, none, some (.if_icmp .ge 22, 3, 34, 0, 0, 0, []), none, none, 
  some (.iload_n 1, 1, 0, 0, 0, 0, []), some (.aload_n 0, 1, 0, 0, 0, 0, []), some (.getfield 20, 3, 7, 1, 1, 0, [(0, 9)]), none, none, some (.iload_n 2, 1, 0, 0, 0, 0, []), some (.bipush 10, 2, 0, 0, 10, 0, []), none, 
  some (.invokevirtual 43, 3, 94, 2, 0, 0, [(0, 14)]), none, none, some (.iadd, 1, 0, 0, 0, 0, []), some (.istore_n 1, 1, 0, 0, 0, 0, []), some (.iinc 2 1, 3, 0, 0, 1, 0, []), none, none, 
  some (.goto (-27), 3, 4, 0, 0, 0, []), none, none, some (.iload_n 1, 1, 0, 0, 0, 0, []), some (.ireturn, 1, 0, 0, 0, 0, [])]
set_option maxRecDepth 100000 in
def cd90 : Cd := [some (.iconst 0, 1, 0, 0, 0, 0, []), some (.istore_n 1, 1, 0, 0, 0, 0, []), some (.iconst 0, 1, 0, 0, 0, 0, []), some (.istore_n 2, 1, 0, 0, 0, 0, []), some (.iload_n 2, 1, 0, 0, 0, 0, []), 
  some (.aload_n 0, 1, 0, 0, 0, 0, []), some (.getfield 14, 3, 7, 0, 0, 0, [(0, 4)]), none, none, some (.invokevirtual 47, 3, 91, 0, 0, 0, [(0, 13)]), none, none, some (.if_icmp .ge 22, 3, 34, 0, 0, 0, []), none, none, 
  some (.iload_n 1, 1, 0, 0, 0, 0, []), some (.aload_n 0, 1, 0, 0, 0, 0, []), some (.getfield 14, 3, 7, 0, 0, 0, [(0, 4)]), none, none, some (.iload_n 2, 1, 0, 0, 0, 0, []), some (.bipush 6, 2, 0, 0, 6, 0, []), none, 
  some (.invokevirtual 43, 3, 94, 2, 0, 0, [(0, 14)]), none, none, some (.iadd, 1, 0, 0, 0, 0, []), some (.istore_n 1, 1, 0, 0, 0, 0, []), some (.iinc 2 1, 3, 0, 0, 1, 0, []), none, none, 
  some (.goto (-27), 3, 4, 0, 0, 0, []), none, none, some (.iload_n 1, 1, 0, 0, 0, 0, []), some (.ireturn, 1, 0, 0, 0, 0, [])]
set_option maxRecDepth 100000 in
def cd91 : Cd := [some (.aload_n 0, 1, 0, 0, 0, 0, []), some (.getfield 9, 3, 8, 2, 2, 0, [(0, 2)]), none, none, some (.ireturn, 1, 0, 0, 0, 0, [])]
set_option maxRecDepth 100000 in
def cd92 : Cd := [some (.aload_n 0, 1, 0, 0, 0, 0, []), some (.getfield 9, 3, 8, 2, 2, 0, [(0, 2)]), none, none, some (.aload_n 0, 1, 0, 0, 0, 0, []), some (.getfield 21, 3, 8, 3, 3, 0, [(0, 3)]), none, none, 
  some (.if_icmp .lt 7, 3, 15, 0, 0, 0, []), none, none, some (.iconst 1, 1, 0, 0, 1, 0, []), some (.goto 4, 3, 16, 0, 0, 0, []), none, none, some (.iconst 0, 1, 0, 0, 0, 0, []), some (.ireturn, 1, 0, 0, 0, 0, [])]
set_option maxRecDepth 100000 in
def cd93 : Cd := [some (.iload_n 1, 1, 0, 0, 0, 0, []), some (.ifCond .lt 15, 3, 16, 0, 0, 0, []), none, none, some (.iload_n 1, 1, 0, 0, 0, 0, []), some (.aload_n 0, 1, 0, 0, 0, 0, []), some (.getfield 9, 3, 8, 2, 2, 0, [(0, 2)]), none, 
  none, some (.if_icmp .ge 7, 3, 16, 0, 0, 0, []), none, none, some (.iconst 1, 1, 0, 0, 1, 0, []), some (.goto 4, 3, 17, 0, 0, 0, []), none, none, some (.iconst 0, 1, 0, 0, 0, 0, []), some (.ireturn, 1, 0, 0, 0, 0, [])]
set_option maxRecDepth 100000 in
def cd94 : Cd := [some (.iload_n 1, 1, 0, 0, 0, 0, []), some (.ifCond .lt 23, 3, 24, 0, 0, 0, []), none, none, some (.iload_n 1, 1, 0, 0, 0, 0, []), some (.aload_n 0, 1, 0, 0, 0, 0, []), some (.getfield 9, 3, 8, 2, 2, 0, [(0, 2)]), none, 
  none, some (.if_icmp .ge 15, 3, 24, 0, 0, 0, []), none, none, some (.iload_n 2, 1, 0, 0, 0, 0, []), some (.ifCond .lt 11, 3, 24, 0, 0, 0, []), none, none, some (.iload_n 2, 1, 0, 0, 0, 0, []), 
  some (.aload_n 0, 1, 0, 0, 0, 0, []), some (.getfield 24, 3, 8, 0, 0, 0, [(0, 0)]), none, none, some (.if_icmp .lt 5, 3, 26, 0, 0, 0, []), none, none, some (.iconst 0, 1, 0, 0, 0, 0, []), 
  some (.ireturn, 1, 0, 0, 0, 0, []), some (.aload_n 0, 1, 0, 0, 0, 0, []), some (.getfield 27, 3, 8, 1, 1, 0, [(0, 1)]), none, none, some (.iload_n 1, 1, 0, 0, 0, 0, []), some (.aload_n 0, 1, 0, 0, 0, 0, []), 
  some (.getfield 24, 3, 8, 0, 0, 0, [(0, 0)]), none, none, some (.imul, 1, 0, 0, 0, 0, []), some (.iload_n 2, 1, 0, 0, 0, 0, []), some (.iadd, 1, 0, 0, 0, 0, []), some (.iaload, 1, 0, 0, 0, 0, []), 
  some (.ireturn, 1, 0, 0, 0, 0, [])]
set_option maxRecDepth 100000 in
def cd95 : Cd := [some (.iload_n 1, 1, 0, 0, 0, 0, []), some (.ifCond .lt 23, 3, 24, 0, 0, 0, []), none, none, some (.iload_n 1, 1, 0, 0, 0, 0, []), some (.aload_n 0, 1, 0, 0, 0, 0, []), some (.getfield 9, 3, 8, 2, 2, 0, [(0, 2)]), none, 
  none, some (.if_icmp .ge 15, 3, 24, 0, 0, 0, []), none, none, some (.iload_n 2, 1, 0, 0, 0, 0, []), some (.ifCond .lt 11, 3, 24, 0, 0, 0, []), none, none, some (.iload_n 2, 1, 0, 0, 0, 0, []), 
  some (.aload_n 0, 1, 0, 0, 0, 0, []), some (.getfield 24, 3, 8, 0, 0, 0, [(0, 0)]), none, none, some (.if_icmp .lt 4, 3, 25, 0, 0, 0, []), none, none, some (.return_, 1, 0, 0, 0, 0, []), 
  some (.aload_n 0, 1, 0, 0, 0, 0, []), some (.getfield 27, 3, 8, 1, 1, 0, [(0, 1)]), none, none, some (.iload_n 1, 1, 0, 0, 0, 0, []), some (.aload_n 0, 1, 0, 0, 0, 0, []), some (.getfield 24, 3, 8, 0, 0, 0, [(0, 0)]), 
  none, none, some (.imul, 1, 0, 0, 0, 0, []), some (.iload_n 2, 1, 0, 0, 0, 0, []), some (.iadd, 1, 0, 0, 0, 0, []), some (.iload_n 3, 1, 0, 0, 0, 0, []), some (.iastore, 1, 0, 0, 0, 0, []), 
  some (.return_, 1, 0, 0, 0, 0, [])]
set_option maxRecDepth 100000 in
def cd96 : Cd := [some (.aload_n 0, 1, 0, 0, 0, 0, []), some (.iload_n 1, 1, 0, 0, 0, 0, []), some (.iload_n 2, 1, 0, 0, 0, 0, []), some (.invokevirtual 31, 3, 94, 2, 0, 0, [(0, 8)]), none, none, some (.istore 4, 2, 0, 0, 0, 0, []), none, 
  some (.aload_n 0, 1, 0, 0, 0, 0, []), some (.iload_n 1, 1, 0, 0, 0, 0, []), some (.iload_n 2, 1, 0, 0, 0, 0, []), some (.iload_n 3, 1, 0, 0, 0, 0, []), some (.invokevirtual 34, 3, 95, 3, 0, 0, [(0, 9)]), none, none, 
  some (.iload 4, 2, 0, 0, 0, 0, []), none, some (.ireturn, 1, 0, 0, 0, 0, [])]
set_option maxRecDepth 100000 in
def cd97 : Cd := [some (.aload_n 0, 1, 0, 0, 0, 0, []), some (.iload_n 1, 1, 0, 0, 0, 0, []), some (.iload_n 2, 1, 0, 0, 0, 0, []), some (.aload_n 0, 1, 0, 0, 0, 0, []), some (.iload_n 1, 1, 0, 0, 0, 0, []), 
  some (.iload_n 2, 1, 0, 0, 0, 0, []), some (.invokevirtual 31, 3, 94, 2, 0, 0, [(0, 8)]), none, none, some (.iload_n 3, 1, 0, 0, 0, 0, []), some (.iadd, 1, 0, 0, 0, 0, []), 
  some (.invokevirtual 34, 3, 95, 3, 0, 0, [(0, 9)]), none, none, some (.return_, 1, 0, 0, 0, 0, [])]
set_option maxRecDepth 100000 in
def cd98 : Cd := [some (.aload_n 0, 1, 0, 0, 0, 0, []), some (.getfield 9, 3, 8, 2, 2, 0, [(0, 2)]), none, none, some (.aload_n 0, 1, 0, 0, 0, 0, []), some (.getfield 21, 3, 8, 3, 3, 0, [(0, 3)]), none, none, 
  some (.if_icmp .lt 6, 3, 14, 0, 0, 0, []), none, none, some (.ldc 38, 2, 0, 0, -1000000005, 0, [(0, 2)]), none, some (.ireturn, 1, 0, 0, 0, 0, []), some (.aload_n 0, 1, 0, 0, 0, 0, []), some (.dup, 1, 0, 0, 0, 0, []), 
  some (.getfield 9, 3, 8, 2, 2, 0, [(0, 2)]), none, none, some (.iconst 1, 1, 0, 0, 1, 0, []), some (.iadd, 1, 0, 0, 0, 0, []), some (.putfield 9, 3, 8, 2, 2, 0, [(0, 2)]), none, none, some (.aload_n 0, 1, 0, 0, 0, 0, []), 
  some (.getfield 9, 3, 8, 2, 2, 0, [(0, 2)]), none, none, some (.iconst 1, 1, 0, 0, 1, 0, []), some (.isub, 1, 0, 0, 0, 0, []), some (.ireturn, 1, 0, 0, 0, 0, [])]
set_option maxRecDepth 100000 in
def cd99 : Cd := [some (.aload_n 1, 1, 0, 0, 0, 0, []), some (.ifnull 16, 3, 17, 0, 0, 0, []), none, none, some (.aload_n 1, 1, 0, 0, 0, 0, []), some (.getfield 27, 3, 8, 1, 1, 0, [(0, 1)]), none, none, 
  some (.arraylength, 1, 0, 0, 0, 0, []), some (.aload_n 0, 1, 0, 0, 0, 0, []), some (.getfield 27, 3, 8, 1, 1, 0, [(0, 1)]), none, none, some (.arraylength, 1, 0, 0, 0, 0, []), some (.if_icmp .eq 4, 3, 18, 0, 0, 0, []), 
  none, none, some (.return_, 1, 0, 0, 0, 0, []), some (.aload_n 1, 1, 0, 0, 0, 0, []), some (.getfield 27, 3, 8, 1, 1, 0, [(0, 1)]), none, none, some (.iconst 0, 1, 0, 0, 0, 0, []), some (.aload_n 0, 1, 0, 0, 0, 0, []), 
  some (.getfield 27, 3, 8, 1, 1, 0, [(0, 1)]), none, none, some (.iconst 0, 1, 0, 0, 0, 0, []), some (.aload_n 0, 1, 0, 0, 0, 0, []), some (.getfield 27, 3, 8, 1, 1, 0, [(0, 1)]), none, none, 
  some (.arraylength, 1, 0, 0, 0, 0, []), some (.invokestatic 39, 3, 1003, 5, 0, 0, [(0, 18)]), none, none, some (.aload_n 0, 1, 0, 0, 0, 0, []), some (.aload_n 1, 1, 0, 0, 0, 0, []), 
  some (.getfield 9, 3, 8, 2, 2, 0, [(0, 2)]), none, none, some (.putfield 9, 3, 8, 2, 2, 0, [(0, 2)]), none, none, some (.return_, 1, 0, 0, 0, 0, [])]
set_option maxRecDepth 100000 in
def cd100 : Cd := [some (.aload_n 0, 1, 0, 0, 0, 0, []), some (.getfield 15, 3, 9, 1, 1, 0, [(0, 54)]), none, none, some (.ireturn, 1, 0, 0, 0, 0, [])]
set_option maxRecDepth 100000 in
def cd101 : Cd := [some (.aload_n 0, 1, 0, 0, 0, 0, []), some (.getfield 15, 3, 9, 1, 1, 0, [(0, 54)]), none, none, some (.bipush 12, 2, 0, 0, 12, 0, []), none, some (.iadd, 1, 0, 0, 0, 0, []), some (.aload_n 0, 1, 0, 0, 0, 0, []), 
  some (.getfield 9, 3, 9, 0, 0, 0, [(0, 53)]), none, none, some (.arraylength, 1, 0, 0, 0, 0, []), some (.if_icmp .gt 7, 3, 19, 0, 0, 0, []), none, none, some (.iconst 1, 1, 0, 0, 1, 0, []), 
  some (.goto 4, 3, 20, 0, 0, 0, []), none, none, some (.iconst 0, 1, 0, 0, 0, 0, []), some (.ireturn, 1, 0, 0, 0, 0, [])]
set_option maxRecDepth 100000 in
def cd102 : Cd := [some (.bipush 24, 2, 0, 0, 24, 0, []), none, some (.istore_n 2, 1, 0, 0, 0, 0, []), some (.iload_n 2, 1, 0, 0, 0, 0, []), some (.ifCond .lt 54, 3, 58, 0, 0, 0, []), none, none, some (.aload_n 0, 1, 0, 0, 0, 0, []), 
  some (.getfield 15, 3, 9, 1, 1, 0, [(0, 54)]), none, none, some (.ifCond .lt 47, 3, 58, 0, 0, 0, []), none, none, some (.aload_n 0, 1, 0, 0, 0, 0, []), some (.getfield 15, 3, 9, 1, 1, 0, [(0, 54)]), none, none, 
  some (.aload_n 0, 1, 0, 0, 0, 0, []), some (.getfield 9, 3, 9, 0, 0, 0, [(0, 53)]), none, none, some (.arraylength, 1, 0, 0, 0, 0, []), some (.if_icmp .ge 35, 3, 58, 0, 0, 0, []), none, none, 
  some (.aload_n 0, 1, 0, 0, 0, 0, []), some (.getfield 9, 3, 9, 0, 0, 0, [(0, 53)]), none, none, some (.aload_n 0, 1, 0, 0, 0, 0, []), some (.getfield 15, 3, 9, 1, 1, 0, [(0, 54)]), none, none, 
  some (.iload_n 1, 1, 0, 0, 0, 0, []), some (.iload_n 2, 1, 0, 0, 0, 0, []), some (.ishr, 1, 0, 0, 0, 0, []), some (.sipush 255, 3, 0, 0, 255, 0, []), none, none, some (.iand, 1, 0, 0, 0, 0, []), 
  some (.iastore, 1, 0, 0, 0, 0, []), some (.aload_n 0, 1, 0, 0, 0, 0, []), some (.dup, 1, 0, 0, 0, 0, []), some (.getfield 15, 3, 9, 1, 1, 0, [(0, 54)]), none, none, some (.iconst 1, 1, 0, 0, 1, 0, []), 
  some (.iadd, 1, 0, 0, 0, 0, []), some (.putfield 15, 3, 9, 1, 1, 0, [(0, 54)]), none, none, some (.iinc 2 (-8), 3, 0, 0, -8, 0, []), none, none, some (.goto (-52), 3, 3, 0, 0, 0, []), none, none, 
  some (.return_, 1, 0, 0, 0, 0, [])]
set_option maxRecDepth 100000 in
def cd103 : Cd := [some (.aload_n 0, 1, 0, 0, 0, 0, []), some (.iconst 0, 1, 0, 0, 0, 0, []), some (.iload_n 1, 1, 0, 0, 0, 0, []), some (.aload_n 0, 1, 0, 0, 0, 0, []), some (.getfield 15, 3, 9, 1, 1, 0, [(0, 54)]), none, none, 
  some (.invokestatic 19, 3, 1002, 2, 0, 0, [(0, 4)]), none, none, some (.invokestatic 25, 3, 1001, 2, 0, 0, [(0, 5)]), none, none, some (.putfield 15, 3, 9, 1, 1, 0, [(0, 54)]), none, none, 
  some (.return_, 1, 0, 0, 0, 0, [])]
set_option maxRecDepth 100000 in
def cd104 : Cd := [some (.iload_n 1, 1, 0, 0, 0, 0, []), some (.ifCond .lt 29, 3, 30, 0, 0, 0, []), none, none, some (.iload_n 1, 1, 0, 0, 0, 0, []), some (.aload_n 0, 1, 0, 0, 0, 0, []), some (.getfield 15, 3, 9, 1, 1, 0, [(0, 54)]), none, 
  none, some (.if_icmp .ge 21, 3, 30, 0, 0, 0, []), none, none, some (.iload_n 1, 1, 0, 0, 0, 0, []), some (.aload_n 0, 1, 0, 0, 0, 0, []), some (.getfield 9, 3, 9, 0, 0, 0, [(0, 53)]), none, none, 
  some (.arraylength, 1, 0, 0, 0, 0, []), some (.if_icmp .ge 12, 3, 30, 0, 0, 0, []), none, none, some (.aload_n 0, 1, 0, 0, 0, 0, []), some (.getfield 9, 3, 9, 0, 0, 0, [(0, 53)]), none, none, 
  some (.iload_n 1, 1, 0, 0, 0, 0, []), some (.iaload, 1, 0, 0, 0, 0, []), some (.goto 4, 3, 31, 0, 0, 0, []), none, none, some (.iconst (-1), 1, 0, 0, -1, 0, []), some (.ireturn, 1, 0, 0, 0, 0, [])]
set_option maxRecDepth 100000 in
def cd105 : Cd := [some (.iload_n 1, 1, 0, 0, 0, 0, []), some (.iconst 1, 1, 0, 0, 1, 0, []), some (.iconst 5, 1, 0, 0, 5, 0, []), some (.invokestatic 87, 3, 156, 3, 0, 0, [(0, 1)]), none, none, some (.ifCond .eq 21, 3, 27, 0, 0, 0, []), 
  none, none, some (.iload_n 2, 1, 0, 0, 0, 0, []), some (.iconst 0, 1, 0, 0, 0, 0, []), some (.iconst 3, 1, 0, 0, 3, 0, []), some (.invokestatic 87, 3, 156, 3, 0, 0, [(0, 1)]), none, none, 
  some (.ifCond .eq 12, 3, 27, 0, 0, 0, []), none, none, some (.iload_n 3, 1, 0, 0, 0, 0, []), some (.iconst 0, 1, 0, 0, 0, 0, []), some (.iconst 3, 1, 0, 0, 3, 0, []), some (.invokestatic 87, 3, 156, 3, 0, 0, [(0, 1)]), 
  none, none, some (.ifCond .ne 6, 3, 30, 0, 0, 0, []), none, none, some (.ldc 91, 2, 0, 0, -1000000001, 0, [(0, 0)]), none, some (.ireturn, 1, 0, 0, 0, 0, []), some (.aload_n 0, 1, 0, 0, 0, 0, []), 
  some (.getfield 12, 3, 10, 0, 0, 0, [(0, 70)]), none, none, some (.getfield 92, 3, 7, 0, 0, 0, [(0, 7)]), none, none, some (.invokevirtual 96, 3, 92, 0, 0, 0, [(0, 2)]), none, none, 
  some (.ifCond .eq 6, 3, 46, 0, 0, 0, []), none, none, some (.ldc 102, 2, 0, 0, -1000000003, 0, [(0, 1)]), none, some (.ireturn, 1, 0, 0, 0, 0, []), some (.aload_n 0, 1, 0, 0, 0, 0, []), 
  some (.getfield 12, 3, 10, 0, 0, 0, [(0, 70)]), none, none, some (.getfield 92, 3, 7, 0, 0, 0, [(0, 7)]), none, none, some (.invokevirtual 103, 3, 98, 0, 0, 0, [(0, 3)]), none, none, some (.istore 4, 2, 0, 0, 0, 0, []), 
  none, some (.aload_n 0, 1, 0, 0, 0, 0, []), some (.getfield 12, 3, 10, 0, 0, 0, [(0, 70)]), none, none, some (.getfield 92, 3, 7, 0, 0, 0, [(0, 7)]), none, none, some (.iload 4, 2, 0, 0, 0, 0, []), none, 
  some (.iconst 0, 1, 0, 0, 0, 0, []), some (.iload_n 1, 1, 0, 0, 0, 0, []), some (.invokevirtual 107, 3, 95, 3, 0, 0, [(0, 4)]), none, none, some (.aload_n 0, 1, 0, 0, 0, 0, []), 
  some (.getfield 12, 3, 10, 0, 0, 0, [(0, 70)]), none, none, some (.getfield 92, 3, 7, 0, 0, 0, [(0, 7)]), none, none, some (.iload 4, 2, 0, 0, 0, 0, []), none, some (.iconst 1, 1, 0, 0, 1, 0, []), 
  some (.iload_n 2, 1, 0, 0, 0, 0, []), some (.invokevirtual 107, 3, 95, 3, 0, 0, [(0, 4)]), none, none, some (.aload_n 0, 1, 0, 0, 0, 0, []), some (.getfield 12, 3, 10, 0, 0, 0, [(0, 70)]), none, none, 
  some (.getfield 92, 3, 7, 0, 0, 0, [(0, 7)]), none, none, some (.iload 4, 2, 0, 0, 0, 0, []), none, some (.iconst 2, 1, 0, 0, 2, 0, []), some (.iload_n 3, 1, 0, 0, 0, 0, []), 
  some (.invokevirtual 107, 3, 95, 3, 0, 0, [(0, 4)]), none, none, some (.aload_n 0, 1, 0, 0, 0, 0, []), some (.getfield 12, 3, 10, 0, 0, 0, [(0, 70)]), none, none, some (.getfield 92, 3, 7, 0, 0, 0, [(0, 7)]), none, none, 
  some (.iload 4, 2, 0, 0, 0, 0, []), none, some (.iconst 3, 1, 0, 0, 3, 0, []), some (.iconst 5, 1, 0, 0, 5, 0, []), some (.invokevirtual 107, 3, 95, 3, 0, 0, [(0, 4)]), none, none, some (.iload 4, 2, 0, 0, 0, 0, []), 
  none, some (.ireturn, 1, 0, 0, 0, 0, [])]
set_option maxRecDepth 100000 in
def cd106 : Cd := [some (.aload_n 0, 1, 0, 0, 0, 0, []), some (.getfield 12, 3, 10, 0, 0, 0, [(0, 70)]), none, none, some (.getfield 92, 3, 7, 0, 0, 0, [(0, 7)]), none, none, some (.iload_n 1, 1, 0, 0, 0, 0, []), 
  some (.invokevirtual 111, 3, 93, 1, 0, 0, [(0, 6)]), none, none, some (.ifCond .eq 13, 3, 24, 0, 0, 0, []), none, none, some (.iload_n 2, 1, 0, 0, 0, 0, []), some (.iconst 0, 1, 0, 0, 0, 0, []), 
  some (.bipush 99, 2, 0, 0, 99, 0, []), none, some (.invokestatic 87, 3, 156, 3, 0, 0, [(0, 1)]), none, none, some (.ifCond .ne 6, 3, 27, 0, 0, 0, []), none, none, some (.ldc 91, 2, 0, 0, -1000000001, 0, [(0, 0)]), none, 
  some (.ireturn, 1, 0, 0, 0, 0, []), some (.aload_n 0, 1, 0, 0, 0, 0, []), some (.getfield 12, 3, 10, 0, 0, 0, [(0, 70)]), none, none, some (.getfield 92, 3, 7, 0, 0, 0, [(0, 7)]), none, none, 
  some (.iload_n 1, 1, 0, 0, 0, 0, []), some (.iconst 3, 1, 0, 0, 3, 0, []), some (.iload_n 2, 1, 0, 0, 0, 0, []), some (.invokevirtual 115, 3, 96, 3, 0, 0, [(0, 7)]), none, none, some (.ireturn, 1, 0, 0, 0, 0, [])]
set_option maxRecDepth 100000 in
def cd107 : Cd := [some (.aload_n 0, 1, 0, 0, 0, 0, []), some (.getfield 12, 3, 10, 0, 0, 0, [(0, 70)]), none, none, some (.getfield 92, 3, 7, 0, 0, 0, [(0, 7)]), none, none, some (.iload_n 1, 1, 0, 0, 0, 0, []), 
  some (.invokevirtual 111, 3, 93, 1, 0, 0, [(0, 6)]), none, none, some (.ifCond .eq 13, 3, 24, 0, 0, 0, []), none, none, some (.iload_n 2, 1, 0, 0, 0, 0, []), some (.iconst 0, 1, 0, 0, 0, 0, []), 
  some (.bipush 99, 2, 0, 0, 99, 0, []), none, some (.invokestatic 87, 3, 156, 3, 0, 0, [(0, 1)]), none, none, some (.ifCond .ne 6, 3, 27, 0, 0, 0, []), none, none, some (.ldc 91, 2, 0, 0, -1000000001, 0, [(0, 0)]), none, 
  some (.ireturn, 1, 0, 0, 0, 0, []), some (.aload_n 0, 1, 0, 0, 0, 0, []), some (.getfield 12, 3, 10, 0, 0, 0, [(0, 70)]), none, none, some (.getfield 92, 3, 7, 0, 0, 0, [(0, 7)]), none, none, 
  some (.iload_n 1, 1, 0, 0, 0, 0, []), some (.iconst 4, 1, 0, 0, 4, 0, []), some (.iload_n 2, 1, 0, 0, 0, 0, []), some (.invokevirtual 115, 3, 96, 3, 0, 0, [(0, 7)]), none, none, some (.ireturn, 1, 0, 0, 0, 0, [])]
set_option maxRecDepth 100000 in
def cd108 : Cd := [some (.aload_n 0, 1, 0, 0, 0, 0, []), some (.getfield 12, 3, 10, 0, 0, 0, [(0, 70)]), none, none, some (.getfield 92, 3, 7, 0, 0, 0, [(0, 7)]), none, none, some (.iload_n 1, 1, 0, 0, 0, 0, []), 
  some (.invokevirtual 111, 3, 93, 1, 0, 0, [(0, 6)]), none, none, some (.ifCond .eq 13, 3, 24, 0, 0, 0, []), none, none, some (.iload_n 2, 1, 0, 0, 0, 0, []), some (.iconst 0, 1, 0, 0, 0, 0, []), 
  some (.bipush 10, 2, 0, 0, 10, 0, []), none, some (.invokestatic 87, 3, 156, 3, 0, 0, [(0, 1)]), none, none, some (.ifCond .ne 6, 3, 27, 0, 0, 0, []), none, none, some (.ldc 91, 2, 0, 0, -1000000001, 0, [(0, 0)]), none, 
  some (.ireturn, 1, 0, 0, 0, 0, []), some (.iload_n 2, 1, 0, 0, 0, 0, []), some (.tableswitch 83 5 10 #[40, 83, 83, 52, 63, 73], 40, 111, 0, 0, 0, [(5, 68), (6, 111), (7, 111), (8, 80), (9, 91), (10, 101)]), none, none, 
  none, none, none, none, none, none, none, none, none, none, none, none, none, none, none, none, none, none, none, none, none, none, none, none, none, none, none, none, none, none, none, none, none, none, none, none, none, 
  some (.aload_n 0, 1, 0, 0, 0, 0, []), some (.getfield 12, 3, 10, 0, 0, 0, [(0, 70)]), none, none, some (.iload_n 1, 1, 0, 0, 0, 0, []), some (.invokevirtual 119, 3, 67, 1, 0, 0, [(0, 12)]), none, none, 
  some (.invokestatic 123, 3, 265, 1, 0, 0, [(0, 15)]), none, none, some (.ireturn, 1, 0, 0, 0, 0, []), some (.aload_n 0, 1, 0, 0, 0, 0, []), some (.getfield 12, 3, 10, 0, 0, 0, [(0, 70)]), none, none, 
  some (.iload_n 1, 1, 0, 0, 0, 0, []), some (.ldc 128, 2, 0, 0, -1000000005, 0, [(0, 6)]), none, some (.invokevirtual 129, 3, 76, 2, 0, 0, [(0, 16)]), none, none, some (.ireturn, 1, 0, 0, 0, 0, []), 
  some (.aload_n 0, 1, 0, 0, 0, 0, []), some (.getfield 12, 3, 10, 0, 0, 0, [(0, 70)]), none, none, some (.iload_n 1, 1, 0, 0, 0, 0, []), some (.iconst 1, 1, 0, 0, 1, 0, []), 
  some (.invokevirtual 129, 3, 76, 2, 0, 0, [(0, 16)]), none, none, some (.ireturn, 1, 0, 0, 0, 0, []), some (.aload_n 0, 1, 0, 0, 0, 0, []), some (.getfield 12, 3, 10, 0, 0, 0, [(0, 70)]), none, none, 
  some (.iload_n 1, 1, 0, 0, 0, 0, []), some (.iconst 2, 1, 0, 0, 2, 0, []), some (.invokevirtual 129, 3, 76, 2, 0, 0, [(0, 16)]), none, none, some (.ireturn, 1, 0, 0, 0, 0, []), some (.aload_n 0, 1, 0, 0, 0, 0, []), 
  some (.getfield 12, 3, 10, 0, 0, 0, [(0, 70)]), none, none, some (.getfield 92, 3, 7, 0, 0, 0, [(0, 7)]), none, none, some (.iload_n 1, 1, 0, 0, 0, 0, []), some (.iload_n 2, 1, 0, 0, 0, 0, []), 
  some (.invokevirtual 133, 3, 94, 2, 0, 0, [(0, 18)]), none, none, some (.ireturn, 1, 0, 0, 0, 0, [])]
set_option maxRecDepth 100000 in
def cd109 : Cd := [some (.iload_n 1, 1, 0, 0, 0, 0, []), some (.iconst 0, 1, 0, 0, 0, 0, []), some (.iconst 3, 1, 0, 0, 3, 0, []), some (.invokestatic 87, 3, 156, 3, 0, 0, [(0, 1)]), none, none, some (.ifCond .eq 23, 3, 29, 0, 0, 0, []), 
  none, none, some (.iload_n 2, 1, 0, 0, 0, 0, []), some (.iconst 0, 1, 0, 0, 0, 0, []), some (.iconst 3, 1, 0, 0, 3, 0, []), some (.invokestatic 87, 3, 156, 3, 0, 0, [(0, 1)]), none, none, 
  some (.ifCond .eq 14, 3, 29, 0, 0, 0, []), none, none, some (.iload_n 3, 1, 0, 0, 0, 0, []), some (.iconst 1, 1, 0, 0, 1, 0, []), some (.sipush 999, 3, 0, 0, 999, 0, []), none, none, 
  some (.invokestatic 87, 3, 156, 3, 0, 0, [(0, 1)]), none, none, some (.ifCond .ne 6, 3, 32, 0, 0, 0, []), none, none, some (.ldc 91, 2, 0, 0, -1000000001, 0, [(0, 0)]), none, some (.ireturn, 1, 0, 0, 0, 0, []), 
  some (.aload_n 0, 1, 0, 0, 0, 0, []), some (.getfield 12, 3, 10, 0, 0, 0, [(0, 70)]), none, none, some (.getfield 136, 3, 7, 1, 1, 0, [(0, 14)]), none, none, some (.invokevirtual 96, 3, 92, 0, 0, 0, [(0, 2)]), none, none, 
  some (.ifCond .eq 6, 3, 48, 0, 0, 0, []), none, none, some (.ldc 102, 2, 0, 0, -1000000003, 0, [(0, 1)]), none, some (.ireturn, 1, 0, 0, 0, 0, []), some (.aload_n 0, 1, 0, 0, 0, 0, []), 
  some (.getfield 12, 3, 10, 0, 0, 0, [(0, 70)]), none, none, some (.getfield 136, 3, 7, 1, 1, 0, [(0, 14)]), none, none, some (.invokevirtual 103, 3, 98, 0, 0, 0, [(0, 3)]), none, none, some (.istore 4, 2, 0, 0, 0, 0, []), 
  none, some (.aload_n 0, 1, 0, 0, 0, 0, []), some (.getfield 12, 3, 10, 0, 0, 0, [(0, 70)]), none, none, some (.getfield 136, 3, 7, 1, 1, 0, [(0, 14)]), none, none, some (.iload 4, 2, 0, 0, 0, 0, []), none, 
  some (.iconst 0, 1, 0, 0, 0, 0, []), some (.iload_n 1, 1, 0, 0, 0, 0, []), some (.invokevirtual 107, 3, 95, 3, 0, 0, [(0, 4)]), none, none, some (.aload_n 0, 1, 0, 0, 0, 0, []), 
  some (.getfield 12, 3, 10, 0, 0, 0, [(0, 70)]), none, none, some (.getfield 136, 3, 7, 1, 1, 0, [(0, 14)]), none, none, some (.iload 4, 2, 0, 0, 0, 0, []), none, some (.iconst 1, 1, 0, 0, 1, 0, []), 
  some (.iload_n 2, 1, 0, 0, 0, 0, []), some (.invokevirtual 107, 3, 95, 3, 0, 0, [(0, 4)]), none, none, some (.aload_n 0, 1, 0, 0, 0, 0, []), some (.getfield 12, 3, 10, 0, 0, 0, [(0, 70)]), none, none, 
  some (.getfield 136, 3, 7, 1, 1, 0, [(0, 14)]), none, none, some (.iload 4, 2, 0, 0, 0, 0, []), none, some (.iconst 2, 1, 0, 0, 2, 0, []), some (.iload_n 3, 1, 0, 0, 0, 0, []), 
  some (.invokevirtual 107, 3, 95, 3, 0, 0, [(0, 4)]), none, none, some (.aload_n 0, 1, 0, 0, 0, 0, []), some (.getfield 12, 3, 10, 0, 0, 0, [(0, 70)]), none, none, some (.getfield 136, 3, 7, 1, 1, 0, [(0, 14)]), none, 
  none, some (.iload 4, 2, 0, 0, 0, 0, []), none, some (.bipush 8, 2, 0, 0, 8, 0, []), none, some (.ldc 128, 2, 0, 0, -1000000005, 0, [(0, 6)]), none, some (.invokevirtual 107, 3, 95, 3, 0, 0, [(0, 4)]), none, none, 
  some (.aload_n 0, 1, 0, 0, 0, 0, []), some (.getfield 12, 3, 10, 0, 0, 0, [(0, 70)]), none, none, some (.getfield 136, 3, 7, 1, 1, 0, [(0, 14)]), none, none, some (.iload 4, 2, 0, 0, 0, 0, []), none, 
  some (.bipush 9, 2, 0, 0, 9, 0, []), none, some (.ldc 128, 2, 0, 0, -1000000005, 0, [(0, 6)]), none, some (.invokevirtual 107, 3, 95, 3, 0, 0, [(0, 4)]), none, none, some (.iload 4, 2, 0, 0, 0, 0, []), none, 
  some (.ireturn, 1, 0, 0, 0, 0, [])]
set_option maxRecDepth 100000 in
def cd110 : Cd := [some (.aload_n 0, 1, 0, 0, 0, 0, []), some (.getfield 12, 3, 10, 0, 0, 0, [(0, 70)]), none, none, some (.getfield 136, 3, 7, 1, 1, 0, [(0, 14)]), none, none, some (.iload_n 1, 1, 0, 0, 0, 0, []), 
  some (.invokevirtual 111, 3, 93, 1, 0, 0, [(0, 6)]), none, none, some (.ifCond .eq 13, 3, 24, 0, 0, 0, []), none, none, some (.iload_n 2, 1, 0, 0, 0, 0, []), some (.iconst 0, 1, 0, 0, 0, 0, []), 
  some (.bipush 11, 2, 0, 0, 11, 0, []), none, some (.invokestatic 87, 3, 156, 3, 0, 0, [(0, 1)]), none, none, some (.ifCond .ne 6, 3, 27, 0, 0, 0, []), none, none, some (.ldc 91, 2, 0, 0, -1000000001, 0, [(0, 0)]), none, 
  some (.ireturn, 1, 0, 0, 0, 0, []), some (.aload_n 0, 1, 0, 0, 0, 0, []), some (.getfield 12, 3, 10, 0, 0, 0, [(0, 70)]), none, none, some (.getfield 136, 3, 7, 1, 1, 0, [(0, 14)]), none, none, 
  some (.iload_n 1, 1, 0, 0, 0, 0, []), some (.iload_n 2, 1, 0, 0, 0, 0, []), some (.invokevirtual 133, 3, 94, 2, 0, 0, [(0, 18)]), none, none, some (.ireturn, 1, 0, 0, 0, 0, [])]
set_option maxRecDepth 100000 in
def cd111 : Cd := [some (.aload_n 0, 1, 0, 0, 0, 0, []), some (.getfield 12, 3, 10, 0, 0, 0, [(0, 70)]), none, none, some (.getfield 136, 3, 7, 1, 1, 0, [(0, 14)]), none, none, some (.iload_n 1, 1, 0, 0, 0, 0, []), 
  some (.invokevirtual 111, 3, 93, 1, 0, 0, [(0, 6)]), none, none, some (.ifCond .eq 12, 3, 23, 0, 0, 0, []), none, none, some (.aload_n 0, 1, 0, 0, 0, 0, []), some (.iload_n 2, 1, 0, 0, 0, 0, []), 
  some (.iload_n 3, 1, 0, 0, 0, 0, []), some (.invokevirtual 139, 3, 112, 2, 0, 0, [(0, 22)]), none, none, some (.ifCond .ne 6, 3, 26, 0, 0, 0, []), none, none, some (.ldc 91, 2, 0, 0, -1000000001, 0, [(0, 0)]), none, 
  some (.ireturn, 1, 0, 0, 0, 0, []), some (.aload_n 0, 1, 0, 0, 0, 0, []), some (.getfield 12, 3, 10, 0, 0, 0, [(0, 70)]), none, none, some (.getfield 136, 3, 7, 1, 1, 0, [(0, 14)]), none, none, 
  some (.iload_n 1, 1, 0, 0, 0, 0, []), some (.iload_n 2, 1, 0, 0, 0, 0, []), some (.iload_n 3, 1, 0, 0, 0, 0, []), some (.invokevirtual 115, 3, 96, 3, 0, 0, [(0, 7)]), none, none, some (.ireturn, 1, 0, 0, 0, 0, [])]
set_option maxRecDepth 100000 in
def cd112 : Cd := [some (.iload_n 1, 1, 0, 0, 0, 0, []), 
  some (.tableswitch 107 0 9 #[55, 62, 107, 69, 107, 107, 107, 107, 107, 78], 55, 108, 0, 0, 0, [(0, 56), (1, 63), (2, 108), (3, 70), (4, 108), (5, 108), (6, 108), (7, 108), (8, 108), (9, 79)]), none, none, none, none, 
  none, none, none, none, none, none, none, none, none, none, none, none, none, none, none, none, none, none, none, none, none, none, none, none, none, none, none, none, none, none, none, none, none, none, none, none, none, 
  none, none, none, none, none, none, none, none, none, none, none, none, none, some (.iload_n 2, 1, 0, 0, 0, 0, []), some (.iconst 0, 1, 0, 0, 0, 0, []), some (.iconst 3, 1, 0, 0, 3, 0, []), 
  some (.invokestatic 87, 3, 156, 3, 0, 0, [(0, 1)]), none, none, some (.ireturn, 1, 0, 0, 0, 0, []), some (.iload_n 2, 1, 0, 0, 0, 0, []), some (.iconst 0, 1, 0, 0, 0, 0, []), some (.iconst 3, 1, 0, 0, 3, 0, []), 
  some (.invokestatic 87, 3, 156, 3, 0, 0, [(0, 1)]), none, none, some (.ireturn, 1, 0, 0, 0, 0, []), some (.iload_n 2, 1, 0, 0, 0, 0, []), some (.iconst 0, 1, 0, 0, 0, 0, []), some (.sipush 9999, 3, 0, 0, 9999, 0, []), 
  none, none, some (.invokestatic 87, 3, 156, 3, 0, 0, [(0, 1)]), none, none, some (.ireturn, 1, 0, 0, 0, 0, []), some (.iload_n 2, 1, 0, 0, 0, 0, []), some (.ldc 128, 2, 0, 0, -1000000005, 0, [(0, 6)]), none, 
  some (.if_icmp .eq 20, 3, 102, 0, 0, 0, []), none, none, some (.iload_n 2, 1, 0, 0, 0, 0, []), some (.aload_n 0, 1, 0, 0, 0, 0, []), some (.getfield 12, 3, 10, 0, 0, 0, [(0, 70)]), none, none, 
  some (.getfield 143, 3, 7, 5, 5, 0, [(0, 28)]), none, none, some (.sipush 999, 3, 0, 0, 999, 0, []), none, none, some (.invokestatic 87, 3, 156, 3, 0, 0, [(0, 1)]), none, none, some (.ifCond .eq 7, 3, 106, 0, 0, 0, []), 
  none, none, some (.iconst 1, 1, 0, 0, 1, 0, []), some (.goto 4, 3, 107, 0, 0, 0, []), none, none, some (.iconst 0, 1, 0, 0, 0, 0, []), some (.ireturn, 1, 0, 0, 0, 0, []), some (.iconst 0, 1, 0, 0, 0, 0, []), 
  some (.ireturn, 1, 0, 0, 0, 0, [])]
set_option maxRecDepth 100000 in
def cd113 : Cd := [some (.aload_n 0, 1, 0, 0, 0, 0, []), some (.getfield 12, 3, 10, 0, 0, 0, [(0, 70)]), none, none, some (.getfield 136, 3, 7, 1, 1, 0, [(0, 14)]), none, none, some (.iload_n 1, 1, 0, 0, 0, 0, []), 
  some (.invokevirtual 111, 3, 93, 1, 0, 0, [(0, 6)]), none, none, some (.ifCond .eq 31, 3, 42, 0, 0, 0, []), none, none, some (.aload_n 0, 1, 0, 0, 0, 0, []), some (.getfield 12, 3, 10, 0, 0, 0, [(0, 70)]), none, none, 
  some (.getfield 136, 3, 7, 1, 1, 0, [(0, 14)]), none, none, some (.iload_n 2, 1, 0, 0, 0, 0, []), some (.invokevirtual 111, 3, 93, 1, 0, 0, [(0, 6)]), none, none, some (.ifCond .eq 17, 3, 42, 0, 0, 0, []), none, none, 
  some (.iload_n 1, 1, 0, 0, 0, 0, []), some (.iload_n 2, 1, 0, 0, 0, 0, []), some (.if_icmp .eq 12, 3, 42, 0, 0, 0, []), none, none, some (.iload_n 3, 1, 0, 0, 0, 0, []), some (.iconst 0, 1, 0, 0, 0, 0, []), 
  some (.iconst 1, 1, 0, 0, 1, 0, []), some (.invokestatic 87, 3, 156, 3, 0, 0, [(0, 1)]), none, none, some (.ifCond .ne 6, 3, 45, 0, 0, 0, []), none, none, some (.ldc 91, 2, 0, 0, -1000000001, 0, [(0, 0)]), none, 
  some (.ireturn, 1, 0, 0, 0, 0, []), some (.aload_n 0, 1, 0, 0, 0, 0, []), some (.getfield 12, 3, 10, 0, 0, 0, [(0, 70)]), none, none, some (.iload_n 1, 1, 0, 0, 0, 0, []), some (.iload_n 2, 1, 0, 0, 0, 0, []), 
  some (.invokevirtual 146, 3, 64, 2, 0, 0, [(0, 24)]), none, none, some (.ifCond .eq 7, 3, 61, 0, 0, 0, []), none, none, some (.iconst 1, 1, 0, 0, 1, 0, []), some (.goto 4, 3, 62, 0, 0, 0, []), none, none, 
  some (.iconst 0, 1, 0, 0, 0, 0, []), some (.istore 4, 2, 0, 0, 0, 0, []), none, some (.aload_n 0, 1, 0, 0, 0, 0, []), some (.getfield 12, 3, 10, 0, 0, 0, [(0, 70)]), none, none, some (.iload_n 1, 1, 0, 0, 0, 0, []), 
  some (.iload_n 2, 1, 0, 0, 0, 0, []), some (.iload_n 3, 1, 0, 0, 0, 0, []), some (.iconst 1, 1, 0, 0, 1, 0, []), some (.if_icmp .ne 7, 3, 79, 0, 0, 0, []), none, none, some (.iconst 1, 1, 0, 0, 1, 0, []), 
  some (.goto 4, 3, 80, 0, 0, 0, []), none, none, some (.iconst 0, 1, 0, 0, 0, 0, []), some (.invokevirtual 149, 3, 65, 3, 0, 0, [(0, 25)]), none, none, some (.aload_n 0, 1, 0, 0, 0, 0, []), 
  some (.getfield 12, 3, 10, 0, 0, 0, [(0, 70)]), none, none, some (.iload_n 2, 1, 0, 0, 0, 0, []), some (.iload_n 1, 1, 0, 0, 0, 0, []), some (.iload_n 3, 1, 0, 0, 0, 0, []), some (.iconst 1, 1, 0, 0, 1, 0, []), 
  some (.if_icmp .ne 7, 3, 98, 0, 0, 0, []), none, none, some (.iconst 1, 1, 0, 0, 1, 0, []), some (.goto 4, 3, 99, 0, 0, 0, []), none, none, some (.iconst 0, 1, 0, 0, 0, 0, []), 
  some (.invokevirtual 149, 3, 65, 3, 0, 0, [(0, 25)]), none, none, some (.iload 4, 2, 0, 0, 0, 0, []), none, some (.ireturn, 1, 0, 0, 0, 0, [])]
set_option maxRecDepth 100000 in
def cd114 : Cd := [some (.aload_n 0, 1, 0, 0, 0, 0, []), some (.getfield 12, 3, 10, 0, 0, 0, [(0, 70)]), none, none, some (.getfield 136, 3, 7, 1, 1, 0, [(0, 14)]), none, none, some (.iload_n 1, 1, 0, 0, 0, 0, []), 
  some (.invokevirtual 111, 3, 93, 1, 0, 0, [(0, 6)]), none, none, some (.ifCond .eq 17, 3, 28, 0, 0, 0, []), none, none, some (.aload_n 0, 1, 0, 0, 0, 0, []), some (.getfield 12, 3, 10, 0, 0, 0, [(0, 70)]), none, none, 
  some (.getfield 92, 3, 7, 0, 0, 0, [(0, 7)]), none, none, some (.iload_n 2, 1, 0, 0, 0, 0, []), some (.invokevirtual 111, 3, 93, 1, 0, 0, [(0, 6)]), none, none, some (.ifCond .ne 6, 3, 31, 0, 0, 0, []), none, none, 
  some (.ldc 91, 2, 0, 0, -1000000001, 0, [(0, 0)]), none, some (.ireturn, 1, 0, 0, 0, 0, []), some (.aload_n 0, 1, 0, 0, 0, 0, []), some (.getfield 12, 3, 10, 0, 0, 0, [(0, 70)]), none, none, 
  some (.iload_n 1, 1, 0, 0, 0, 0, []), some (.iload_n 2, 1, 0, 0, 0, 0, []), some (.invokevirtual 153, 3, 66, 2, 0, 0, [(0, 28)]), none, none, some (.ifCond .eq 7, 3, 47, 0, 0, 0, []), none, none, 
  some (.iconst 1, 1, 0, 0, 1, 0, []), some (.goto 4, 3, 48, 0, 0, 0, []), none, none, some (.iconst 0, 1, 0, 0, 0, 0, []), some (.ireturn, 1, 0, 0, 0, 0, [])]
set_option maxRecDepth 100000 in
def cd115 : Cd := [some (.aload_n 0, 1, 0, 0, 0, 0, []), some (.getfield 12, 3, 10, 0, 0, 0, [(0, 70)]), none, none, some (.getfield 136, 3, 7, 1, 1, 0, [(0, 14)]), none, none, some (.iload_n 1, 1, 0, 0, 0, 0, []), 
  some (.invokevirtual 111, 3, 93, 1, 0, 0, [(0, 6)]), none, none, some (.ifCond .eq 23, 3, 34, 0, 0, 0, []), none, none, some (.iload_n 2, 1, 0, 0, 0, 0, []), some (.ldc 128, 2, 0, 0, -1000000005, 0, [(0, 6)]), none, 
  some (.if_icmp .eq 20, 3, 37, 0, 0, 0, []), none, none, some (.aload_n 0, 1, 0, 0, 0, 0, []), some (.getfield 12, 3, 10, 0, 0, 0, [(0, 70)]), none, none, some (.getfield 92, 3, 7, 0, 0, 0, [(0, 7)]), none, none, 
  some (.iload_n 2, 1, 0, 0, 0, 0, []), some (.invokevirtual 111, 3, 93, 1, 0, 0, [(0, 6)]), none, none, some (.ifCond .ne 6, 3, 37, 0, 0, 0, []), none, none, some (.ldc 91, 2, 0, 0, -1000000001, 0, [(0, 0)]), none, 
  some (.ireturn, 1, 0, 0, 0, 0, []), some (.iload_n 2, 1, 0, 0, 0, 0, []), some (.ldc 128, 2, 0, 0, -1000000005, 0, [(0, 6)]), none, some (.if_icmp .eq 30, 3, 70, 0, 0, 0, []), none, none, 
  some (.aload_n 0, 1, 0, 0, 0, 0, []), some (.getfield 12, 3, 10, 0, 0, 0, [(0, 70)]), none, none, some (.iload_n 1, 1, 0, 0, 0, 0, []), some (.iload_n 2, 1, 0, 0, 0, 0, []), 
  some (.invokevirtual 153, 3, 66, 2, 0, 0, [(0, 28)]), none, none, some (.ifCond .eq 15, 3, 67, 0, 0, 0, []), none, none, some (.aload_n 0, 1, 0, 0, 0, 0, []), some (.getfield 12, 3, 10, 0, 0, 0, [(0, 70)]), none, none, 
  some (.iload_n 1, 1, 0, 0, 0, 0, []), some (.iload_n 2, 1, 0, 0, 0, 0, []), some (.invokevirtual 156, 3, 68, 2, 0, 0, [(0, 31)]), none, none, some (.ifCond .ne 6, 3, 70, 0, 0, 0, []), none, none, 
  some (.ldc 159, 2, 0, 0, -1000000002, 0, [(0, 8)]), none, some (.ireturn, 1, 0, 0, 0, 0, []), some (.aload_n 0, 1, 0, 0, 0, 0, []), some (.getfield 12, 3, 10, 0, 0, 0, [(0, 70)]), none, none, 
  some (.getfield 136, 3, 7, 1, 1, 0, [(0, 14)]), none, none, some (.iload_n 1, 1, 0, 0, 0, 0, []), some (.bipush 8, 2, 0, 0, 8, 0, []), none, some (.invokevirtual 133, 3, 94, 2, 0, 0, [(0, 18)]), none, none, 
  some (.istore_n 3, 1, 0, 0, 0, 0, []), some (.aload_n 0, 1, 0, 0, 0, 0, []), some (.getfield 12, 3, 10, 0, 0, 0, [(0, 70)]), none, none, some (.iload_n 1, 1, 0, 0, 0, 0, []), some (.iload_n 2, 1, 0, 0, 0, 0, []), 
  some (.invokevirtual 160, 3, 69, 2, 0, 0, [(0, 34)]), none, none, some (.iload_n 3, 1, 0, 0, 0, 0, []), some (.ireturn, 1, 0, 0, 0, 0, [])]
set_option maxRecDepth 100000 in
def cd116 : Cd := [some (.iload_n 1, 1, 0, 0, 0, 0, []), some (.iconst 0, 1, 0, 0, 0, 0, []), some (.iconst 1, 1, 0, 0, 1, 0, []), some (.aload_n 0, 1, 0, 0, 0, 0, []), some (.getfield 12, 3, 10, 0, 0, 0, [(0, 70)]), none, none, 
  some (.getfield 136, 3, 7, 1, 1, 0, [(0, 14)]), none, none, some (.invokevirtual 164, 3, 91, 0, 0, 0, [(0, 38)]), none, none, some (.iadd, 1, 0, 0, 0, 0, []), some (.invokestatic 87, 3, 156, 3, 0, 0, [(0, 1)]), none, 
  none, some (.ifCond .ne 6, 3, 23, 0, 0, 0, []), none, none, some (.ldc 91, 2, 0, 0, -1000000001, 0, [(0, 0)]), none, some (.ireturn, 1, 0, 0, 0, 0, []), some (.aload_n 0, 1, 0, 0, 0, 0, []), 
  some (.getfield 48, 3, 10, 6, 6, 0, [(0, 76)]), none, none, some (.aload_n 0, 1, 0, 0, 0, 0, []), some (.getfield 12, 3, 10, 0, 0, 0, [(0, 70)]), none, none, some (.invokevirtual 167, 3, 8, 1, 0, 0, [(0, 39)]), none, 
  none, some (.iload_n 1, 1, 0, 0, 0, 0, []), some (.lookupswitch 41 #[(0, 25), (1, 33)], 25, 76, 0, 0, 0, [(0, 60), (1, 68)]), none, none, none, none, none, none, none, none, none, none, none, none, none, none, none, none, 
  none, none, none, none, none, none, none, none, some (.aload_n 0, 1, 0, 0, 0, 0, []), some (.getfield 48, 3, 10, 6, 6, 0, [(0, 76)]), none, none, some (.invokevirtual 171, 3, 5, 0, 0, 0, [(0, 51)]), none, none, 
  some (.ireturn, 1, 0, 0, 0, 0, []), some (.aload_n 0, 1, 0, 0, 0, 0, []), some (.getfield 48, 3, 10, 6, 6, 0, [(0, 76)]), none, none, some (.invokevirtual 174, 3, 6, 0, 0, 0, [(0, 52)]), none, none, 
  some (.ireturn, 1, 0, 0, 0, 0, []), some (.aload_n 0, 1, 0, 0, 0, 0, []), some (.getfield 48, 3, 10, 6, 6, 0, [(0, 76)]), none, none, some (.iload_n 1, 1, 0, 0, 0, 0, []), some (.iconst 2, 1, 0, 0, 2, 0, []), 
  some (.isub, 1, 0, 0, 0, 0, []), some (.invokevirtual 177, 3, 7, 1, 0, 0, [(0, 53)]), none, none, some (.ireturn, 1, 0, 0, 0, 0, [])]
set_option maxRecDepth 100000 in
def cd117 : Cd := [some (.aload_n 0, 1, 0, 0, 0, 0, []), some (.getfield 48, 3, 10, 6, 6, 0, [(0, 76)]), none, none, some (.aload_n 0, 1, 0, 0, 0, 0, []), some (.getfield 12, 3, 10, 0, 0, 0, [(0, 70)]), none, none, 
  some (.invokevirtual 167, 3, 8, 1, 0, 0, [(0, 39)]), none, none, some (.iconst 0, 1, 0, 0, 0, 0, []), some (.istore_n 1, 1, 0, 0, 0, 0, []), some (.iconst 0, 1, 0, 0, 0, 0, []), some (.istore_n 2, 1, 0, 0, 0, 0, []), 
  some (.iload_n 2, 1, 0, 0, 0, 0, []), some (.aload_n 0, 1, 0, 0, 0, 0, []), some (.getfield 12, 3, 10, 0, 0, 0, [(0, 70)]), none, none, some (.getfield 136, 3, 7, 1, 1, 0, [(0, 14)]), none, none, 
  some (.invokevirtual 164, 3, 91, 0, 0, 0, [(0, 38)]), none, none, some (.if_icmp .ge 63, 3, 89, 0, 0, 0, []), none, none, some (.aload_n 0, 1, 0, 0, 0, 0, []), some (.getfield 12, 3, 10, 0, 0, 0, [(0, 70)]), none, none, 
  some (.iload_n 2, 1, 0, 0, 0, 0, []), some (.invokevirtual 180, 3, 62, 1, 0, 0, [(0, 55)]), none, none, some (.ifCond .ne 46, 3, 83, 0, 0, 0, []), none, none, some (.aload_n 0, 1, 0, 0, 0, 0, []), 
  some (.getfield 48, 3, 10, 6, 6, 0, [(0, 76)]), none, none, some (.iload_n 2, 1, 0, 0, 0, 0, []), some (.invokevirtual 177, 3, 7, 1, 0, 0, [(0, 53)]), none, none, some (.aload_n 0, 1, 0, 0, 0, 0, []), 
  some (.getfield 12, 3, 10, 0, 0, 0, [(0, 70)]), none, none, some (.getfield 136, 3, 7, 1, 1, 0, [(0, 14)]), none, none, some (.iload_n 2, 1, 0, 0, 0, 0, []), some (.bipush 8, 2, 0, 0, 8, 0, []), none, 
  some (.invokevirtual 133, 3, 94, 2, 0, 0, [(0, 18)]), none, none, some (.if_icmp .eq 22, 3, 83, 0, 0, 0, []), none, none, some (.aload_n 0, 1, 0, 0, 0, 0, []), some (.getfield 12, 3, 10, 0, 0, 0, [(0, 70)]), none, none, 
  some (.iload_n 2, 1, 0, 0, 0, 0, []), some (.aload_n 0, 1, 0, 0, 0, 0, []), some (.getfield 48, 3, 10, 6, 6, 0, [(0, 76)]), none, none, some (.iload_n 2, 1, 0, 0, 0, 0, []), 
  some (.invokevirtual 177, 3, 7, 1, 0, 0, [(0, 53)]), none, none, some (.invokevirtual 160, 3, 69, 2, 0, 0, [(0, 34)]), none, none, some (.iinc 1 1, 3, 0, 0, 1, 0, []), none, none, some (.iinc 2 1, 3, 0, 0, 1, 0, []), 
  none, none, some (.goto (-71), 3, 15, 0, 0, 0, []), none, none, some (.iload_n 1, 1, 0, 0, 0, 0, []), some (.ireturn, 1, 0, 0, 0, 0, [])]
set_option maxRecDepth 100000 in
def cd118 : Cd := [some (.iconst 0, 1, 0, 0, 0, 0, []), some (.istore_n 1, 1, 0, 0, 0, 0, []), some (.iconst 0, 1, 0, 0, 0, 0, []), some (.istore_n 2, 1, 0, 0, 0, 0, []), some (.iload_n 2, 1, 0, 0, 0, 0, []), 
  some (.aload_n 0, 1, 0, 0, 0, 0, []), some (.getfield 12, 3, 10, 0, 0, 0, [(0, 70)]), none, none, some (.getfield 136, 3, 7, 1, 1, 0, [(0, 14)]), none, none, some (.invokevirtual 164, 3, 91, 0, 0, 0, [(0, 38)]), none, 
  none, some (.if_icmp .ge 60, 3, 75, 0, 0, 0, []), none, none, some (.aload_n 0, 1, 0, 0, 0, 0, []), some (.getfield 12, 3, 10, 0, 0, 0, [(0, 70)]), none, none, some (.iload_n 2, 1, 0, 0, 0, 0, []), 
  some (.invokevirtual 180, 3, 62, 1, 0, 0, [(0, 55)]), none, none, some (.ifCond .ne 43, 3, 69, 0, 0, 0, []), none, none, some (.aload_n 0, 1, 0, 0, 0, 0, []), some (.getfield 12, 3, 10, 0, 0, 0, [(0, 70)]), none, none, 
  some (.getfield 136, 3, 7, 1, 1, 0, [(0, 14)]), none, none, some (.iload_n 2, 1, 0, 0, 0, 0, []), some (.bipush 6, 2, 0, 0, 6, 0, []), none, some (.invokevirtual 133, 3, 94, 2, 0, 0, [(0, 18)]), none, none, 
  some (.ifCond .ne 27, 3, 69, 0, 0, 0, []), none, none, some (.aload_n 0, 1, 0, 0, 0, 0, []), some (.getfield 12, 3, 10, 0, 0, 0, [(0, 70)]), none, none, some (.getfield 136, 3, 7, 1, 1, 0, [(0, 14)]), none, none, 
  some (.iload_n 2, 1, 0, 0, 0, 0, []), some (.bipush 8, 2, 0, 0, 8, 0, []), none, some (.invokevirtual 133, 3, 94, 2, 0, 0, [(0, 18)]), none, none, some (.ldc 128, 2, 0, 0, -1000000005, 0, [(0, 6)]), none, 
  some (.if_icmp .ne 9, 3, 69, 0, 0, 0, []), none, none, some (.iload_n 1, 1, 0, 0, 0, 0, []), some (.iconst 1, 1, 0, 0, 1, 0, []), some (.iload_n 2, 1, 0, 0, 0, 0, []), some (.ishl, 1, 0, 0, 0, 0, []), 
  some (.ior, 1, 0, 0, 0, 0, []), some (.istore_n 1, 1, 0, 0, 0, 0, []), some (.iinc 2 1, 3, 0, 0, 1, 0, []), none, none, some (.goto (-68), 3, 4, 0, 0, 0, []), none, none, some (.iload_n 1, 1, 0, 0, 0, 0, []), 
  some (.ireturn, 1, 0, 0, 0, 0, [])]
set_option maxRecDepth 100000 in
def cd119 : Cd := [some (.iload_n 1, 1, 0, 0, 0, 0, []), some (.invokestatic 183, 3, 157, 1, 0, 0, [(0, 58)]), none, none, some (.ifCond .eq 27, 3, 31, 0, 0, 0, []), none, none, some (.aload_n 0, 1, 0, 0, 0, 0, []), 
  some (.getfield 12, 3, 10, 0, 0, 0, [(0, 70)]), none, none, some (.getfield 92, 3, 7, 0, 0, 0, [(0, 7)]), none, none, some (.iload_n 2, 1, 0, 0, 0, 0, []), some (.invokevirtual 111, 3, 93, 1, 0, 0, [(0, 6)]), none, none, 
  some (.ifCond .eq 13, 3, 31, 0, 0, 0, []), none, none, some (.iload_n 1, 1, 0, 0, 0, 0, []), some (.iload_n 3, 1, 0, 0, 0, 0, []), some (.iload 4, 2, 0, 0, 0, 0, []), none, 
  some (.invokestatic 186, 3, 158, 3, 0, 0, [(0, 59)]), none, none, some (.ifCond .ne 6, 3, 34, 0, 0, 0, []), none, none, some (.ldc 91, 2, 0, 0, -1000000001, 0, [(0, 0)]), none, some (.ireturn, 1, 0, 0, 0, 0, []), 
  some (.aload_n 0, 1, 0, 0, 0, 0, []), some (.getfield 12, 3, 10, 0, 0, 0, [(0, 70)]), none, none, some (.getfield 189, 3, 7, 2, 2, 0, [(0, 18)]), none, none, some (.invokevirtual 96, 3, 92, 0, 0, 0, [(0, 2)]), none, none, 
  some (.ifCond .eq 6, 3, 50, 0, 0, 0, []), none, none, some (.ldc 102, 2, 0, 0, -1000000003, 0, [(0, 1)]), none, some (.ireturn, 1, 0, 0, 0, 0, []), some (.aload_n 0, 1, 0, 0, 0, 0, []), 
  some (.getfield 12, 3, 10, 0, 0, 0, [(0, 70)]), none, none, some (.getfield 189, 3, 7, 2, 2, 0, [(0, 18)]), none, none, some (.invokevirtual 103, 3, 98, 0, 0, 0, [(0, 3)]), none, none, some (.istore 5, 2, 0, 0, 0, 0, []), 
  none, some (.aload_n 0, 1, 0, 0, 0, 0, []), some (.getfield 12, 3, 10, 0, 0, 0, [(0, 70)]), none, none, some (.getfield 189, 3, 7, 2, 2, 0, [(0, 18)]), none, none, some (.iload 5, 2, 0, 0, 0, 0, []), none, 
  some (.iconst 0, 1, 0, 0, 0, 0, []), some (.iload_n 1, 1, 0, 0, 0, 0, []), some (.invokevirtual 107, 3, 95, 3, 0, 0, [(0, 4)]), none, none, some (.aload_n 0, 1, 0, 0, 0, 0, []), 
  some (.getfield 12, 3, 10, 0, 0, 0, [(0, 70)]), none, none, some (.getfield 189, 3, 7, 2, 2, 0, [(0, 18)]), none, none, some (.iload 5, 2, 0, 0, 0, 0, []), none, some (.iconst 1, 1, 0, 0, 1, 0, []), 
  some (.iload_n 2, 1, 0, 0, 0, 0, []), some (.invokevirtual 107, 3, 95, 3, 0, 0, [(0, 4)]), none, none, some (.aload_n 0, 1, 0, 0, 0, 0, []), some (.getfield 12, 3, 10, 0, 0, 0, [(0, 70)]), none, none, 
  some (.getfield 189, 3, 7, 2, 2, 0, [(0, 18)]), none, none, some (.iload 5, 2, 0, 0, 0, 0, []), none, some (.iconst 2, 1, 0, 0, 2, 0, []), some (.iload_n 3, 1, 0, 0, 0, 0, []), 
  some (.invokevirtual 107, 3, 95, 3, 0, 0, [(0, 4)]), none, none, some (.aload_n 0, 1, 0, 0, 0, 0, []), some (.getfield 12, 3, 10, 0, 0, 0, [(0, 70)]), none, none, some (.getfield 189, 3, 7, 2, 2, 0, [(0, 18)]), none, 
  none, some (.iload 5, 2, 0, 0, 0, 0, []), none, some (.iconst 3, 1, 0, 0, 3, 0, []), some (.iload 4, 2, 0, 0, 0, 0, []), none, some (.invokevirtual 107, 3, 95, 3, 0, 0, [(0, 4)]), none, none, 
  some (.aload_n 0, 1, 0, 0, 0, 0, []), some (.getfield 12, 3, 10, 0, 0, 0, [(0, 70)]), none, none, some (.getfield 189, 3, 7, 2, 2, 0, [(0, 18)]), none, none, some (.iload 5, 2, 0, 0, 0, 0, []), none, 
  some (.iconst 4, 1, 0, 0, 4, 0, []), some (.iconst 0, 1, 0, 0, 0, 0, []), some (.invokevirtual 107, 3, 95, 3, 0, 0, [(0, 4)]), none, none, some (.aload_n 0, 1, 0, 0, 0, 0, []), 
  some (.getfield 12, 3, 10, 0, 0, 0, [(0, 70)]), none, none, some (.getfield 189, 3, 7, 2, 2, 0, [(0, 18)]), none, none, some (.iload 5, 2, 0, 0, 0, 0, []), none, some (.iconst 5, 1, 0, 0, 5, 0, []), 
  some (.ldc 128, 2, 0, 0, -1000000005, 0, [(0, 6)]), none, some (.invokevirtual 107, 3, 95, 3, 0, 0, [(0, 4)]), none, none, some (.aload_n 0, 1, 0, 0, 0, 0, []), some (.getfield 12, 3, 10, 0, 0, 0, [(0, 70)]), none, none, 
  some (.getfield 189, 3, 7, 2, 2, 0, [(0, 18)]), none, none, some (.iload 5, 2, 0, 0, 0, 0, []), none, some (.bipush 6, 2, 0, 0, 6, 0, []), none, some (.ldc 128, 2, 0, 0, -1000000005, 0, [(0, 6)]), none, 
  some (.invokevirtual 107, 3, 95, 3, 0, 0, [(0, 4)]), none, none, some (.iload 5, 2, 0, 0, 0, 0, []), none, some (.ireturn, 1, 0, 0, 0, 0, [])]
set_option maxRecDepth 100000 in
def cd120 : Cd := [some (.aload_n 0, 1, 0, 0, 0, 0, []), some (.getfield 12, 3, 10, 0, 0, 0, [(0, 70)]), none, none, some (.getfield 189, 3, 7, 2, 2, 0, [(0, 18)]), none, none, some (.iload_n 1, 1, 0, 0, 0, 0, []), 
  some (.invokevirtual 111, 3, 93, 1, 0, 0, [(0, 6)]), none, none, some (.ifCond .eq 13, 3, 24, 0, 0, 0, []), none, none, some (.iload_n 2, 1, 0, 0, 0, 0, []), some (.iconst 0, 1, 0, 0, 0, 0, []), 
  some (.bipush 6, 2, 0, 0, 6, 0, []), none, some (.invokestatic 87, 3, 156, 3, 0, 0, [(0, 1)]), none, none, some (.ifCond .ne 6, 3, 27, 0, 0, 0, []), none, none, some (.ldc 91, 2, 0, 0, -1000000001, 0, [(0, 0)]), none, 
  some (.ireturn, 1, 0, 0, 0, 0, []), some (.aload_n 0, 1, 0, 0, 0, 0, []), some (.getfield 12, 3, 10, 0, 0, 0, [(0, 70)]), none, none, some (.getfield 189, 3, 7, 2, 2, 0, [(0, 18)]), none, none, 
  some (.iload_n 1, 1, 0, 0, 0, 0, []), some (.iload_n 2, 1, 0, 0, 0, 0, []), some (.invokevirtual 133, 3, 94, 2, 0, 0, [(0, 18)]), none, none, some (.ireturn, 1, 0, 0, 0, 0, [])]
set_option maxRecDepth 100000 in
def cd121 : Cd := [some (.aload_n 0, 1, 0, 0, 0, 0, []), some (.getfield 12, 3, 10, 0, 0, 0, [(0, 70)]), none, none, some (.getfield 189, 3, 7, 2, 2, 0, [(0, 18)]), none, none, some (.iload_n 1, 1, 0, 0, 0, 0, []), 
  some (.invokevirtual 111, 3, 93, 1, 0, 0, [(0, 6)]), none, none, some (.ifCond .eq 10, 3, 21, 0, 0, 0, []), none, none, some (.iload_n 2, 1, 0, 0, 0, 0, []), some (.invokestatic 183, 3, 157, 1, 0, 0, [(0, 58)]), none, 
  none, some (.ifCond .ne 6, 3, 24, 0, 0, 0, []), none, none, some (.ldc 91, 2, 0, 0, -1000000001, 0, [(0, 0)]), none, some (.ireturn, 1, 0, 0, 0, 0, []), some (.aload_n 0, 1, 0, 0, 0, 0, []), 
  some (.getfield 12, 3, 10, 0, 0, 0, [(0, 70)]), none, none, some (.iload_n 1, 1, 0, 0, 0, 0, []), some (.iload_n 2, 1, 0, 0, 0, 0, []), some (.invokevirtual 192, 3, 74, 2, 0, 0, [(0, 62)]), none, none, 
  some (.ifCond .eq 18, 3, 51, 0, 0, 0, []), none, none, some (.aload_n 0, 1, 0, 0, 0, 0, []), some (.getfield 12, 3, 10, 0, 0, 0, [(0, 70)]), none, none, some (.getfield 189, 3, 7, 2, 2, 0, [(0, 18)]), none, none, 
  some (.iload_n 1, 1, 0, 0, 0, 0, []), some (.iconst 2, 1, 0, 0, 2, 0, []), some (.invokevirtual 133, 3, 94, 2, 0, 0, [(0, 18)]), none, none, some (.goto 5, 3, 53, 0, 0, 0, []), none, none, 
  some (.ldc 195, 2, 0, 0, -1000000012, 0, [(0, 10)]), none, some (.ireturn, 1, 0, 0, 0, 0, [])]
set_option maxRecDepth 100000 in
def cd122 : Cd := [some (.aload_n 0, 1, 0, 0, 0, 0, []), some (.getfield 12, 3, 10, 0, 0, 0, [(0, 70)]), none, none, some (.getfield 189, 3, 7, 2, 2, 0, [(0, 18)]), none, none, some (.iload_n 1, 1, 0, 0, 0, 0, []), 
  some (.invokevirtual 111, 3, 93, 1, 0, 0, [(0, 6)]), none, none, some (.ifCond .eq 17, 3, 28, 0, 0, 0, []), none, none, some (.aload_n 0, 1, 0, 0, 0, 0, []), some (.getfield 12, 3, 10, 0, 0, 0, [(0, 70)]), none, none, 
  some (.getfield 136, 3, 7, 1, 1, 0, [(0, 14)]), none, none, some (.iload_n 2, 1, 0, 0, 0, 0, []), some (.invokevirtual 111, 3, 93, 1, 0, 0, [(0, 6)]), none, none, some (.ifCond .ne 6, 3, 31, 0, 0, 0, []), none, none, 
  some (.ldc 91, 2, 0, 0, -1000000001, 0, [(0, 0)]), none, some (.ireturn, 1, 0, 0, 0, 0, []), some (.aload_n 0, 1, 0, 0, 0, 0, []), some (.getfield 12, 3, 10, 0, 0, 0, [(0, 70)]), none, none, 
  some (.iload_n 1, 1, 0, 0, 0, 0, []), some (.iconst 1, 1, 0, 0, 1, 0, []), some (.invokevirtual 192, 3, 74, 2, 0, 0, [(0, 62)]), none, none, some (.ifCond .ne 6, 3, 46, 0, 0, 0, []), none, none, 
  some (.ldc 195, 2, 0, 0, -1000000012, 0, [(0, 10)]), none, some (.ireturn, 1, 0, 0, 0, 0, []), some (.aload_n 0, 1, 0, 0, 0, 0, []), some (.getfield 12, 3, 10, 0, 0, 0, [(0, 70)]), none, none, 
  some (.iload_n 2, 1, 0, 0, 0, 0, []), some (.iload_n 1, 1, 0, 0, 0, 0, []), some (.invokevirtual 196, 3, 77, 2, 0, 0, [(0, 64)]), none, none, some (.ifCond .ne 6, 3, 61, 0, 0, 0, []), none, none, 
  some (.ldc 159, 2, 0, 0, -1000000002, 0, [(0, 8)]), none, some (.ireturn, 1, 0, 0, 0, 0, []), some (.aload_n 0, 1, 0, 0, 0, 0, []), some (.getfield 12, 3, 10, 0, 0, 0, [(0, 70)]), none, none, 
  some (.getfield 189, 3, 7, 2, 2, 0, [(0, 18)]), none, none, some (.iload_n 1, 1, 0, 0, 0, 0, []), some (.iconst 4, 1, 0, 0, 4, 0, []), some (.iconst 1, 1, 0, 0, 1, 0, []), 
  some (.invokevirtual 107, 3, 95, 3, 0, 0, [(0, 4)]), none, none, some (.aload_n 0, 1, 0, 0, 0, 0, []), some (.getfield 12, 3, 10, 0, 0, 0, [(0, 70)]), none, none, some (.getfield 189, 3, 7, 2, 2, 0, [(0, 18)]), none, 
  none, some (.iload_n 1, 1, 0, 0, 0, 0, []), some (.iconst 5, 1, 0, 0, 5, 0, []), some (.iload_n 2, 1, 0, 0, 0, 0, []), some (.invokevirtual 107, 3, 95, 3, 0, 0, [(0, 4)]), none, none, some (.aload_n 0, 1, 0, 0, 0, 0, []), 
  some (.getfield 12, 3, 10, 0, 0, 0, [(0, 70)]), none, none, some (.iload_n 2, 1, 0, 0, 0, 0, []), some (.invokevirtual 199, 3, 72, 1, 0, 0, [(0, 65)]), none, none, some (.ireturn, 1, 0, 0, 0, 0, [])]
set_option maxRecDepth 100000 in
def cd123 : Cd := [some (.aload_n 0, 1, 0, 0, 0, 0, []), some (.getfield 12, 3, 10, 0, 0, 0, [(0, 70)]), none, none, some (.getfield 189, 3, 7, 2, 2, 0, [(0, 18)]), none, none, some (.iload_n 1, 1, 0, 0, 0, 0, []), 
  some (.invokevirtual 111, 3, 93, 1, 0, 0, [(0, 6)]), none, none, some (.ifCond .ne 6, 3, 17, 0, 0, 0, []), none, none, some (.ldc 91, 2, 0, 0, -1000000001, 0, [(0, 0)]), none, some (.ireturn, 1, 0, 0, 0, 0, []), 
  some (.aload_n 0, 1, 0, 0, 0, 0, []), some (.getfield 12, 3, 10, 0, 0, 0, [(0, 70)]), none, none, some (.iload_n 1, 1, 0, 0, 0, 0, []), some (.iconst 1, 1, 0, 0, 1, 0, []), 
  some (.invokevirtual 192, 3, 74, 2, 0, 0, [(0, 62)]), none, none, some (.ifCond .ne 6, 3, 32, 0, 0, 0, []), none, none, some (.ldc 195, 2, 0, 0, -1000000012, 0, [(0, 10)]), none, some (.ireturn, 1, 0, 0, 0, 0, []), 
  some (.aload_n 0, 1, 0, 0, 0, 0, []), some (.getfield 12, 3, 10, 0, 0, 0, [(0, 70)]), none, none, some (.getfield 189, 3, 7, 2, 2, 0, [(0, 18)]), none, none, some (.iload_n 1, 1, 0, 0, 0, 0, []), 
  some (.iconst 4, 1, 0, 0, 4, 0, []), some (.invokevirtual 133, 3, 94, 2, 0, 0, [(0, 18)]), none, none, some (.ifCond .ne 6, 3, 50, 0, 0, 0, []), none, none, some (.ldc 159, 2, 0, 0, -1000000002, 0, [(0, 8)]), none, 
  some (.ireturn, 1, 0, 0, 0, 0, []), some (.aload_n 0, 1, 0, 0, 0, 0, []), some (.getfield 12, 3, 10, 0, 0, 0, [(0, 70)]), none, none, some (.getfield 189, 3, 7, 2, 2, 0, [(0, 18)]), none, none, 
  some (.iload_n 1, 1, 0, 0, 0, 0, []), some (.iconst 5, 1, 0, 0, 5, 0, []), some (.ldc 128, 2, 0, 0, -1000000005, 0, [(0, 6)]), none, some (.invokevirtual 107, 3, 95, 3, 0, 0, [(0, 4)]), none, none, 
  some (.aload_n 0, 1, 0, 0, 0, 0, []), some (.getfield 12, 3, 10, 0, 0, 0, [(0, 70)]), none, none, some (.getfield 189, 3, 7, 2, 2, 0, [(0, 18)]), none, none, some (.iload_n 1, 1, 0, 0, 0, 0, []), 
  some (.iconst 4, 1, 0, 0, 4, 0, []), some (.iconst 0, 1, 0, 0, 0, 0, []), some (.invokevirtual 115, 3, 96, 3, 0, 0, [(0, 7)]), none, none, some (.ireturn, 1, 0, 0, 0, 0, [])]
set_option maxRecDepth 100000 in
def cd124 : Cd := [some (.aload_n 0, 1, 0, 0, 0, 0, []), some (.getfield 12, 3, 10, 0, 0, 0, [(0, 70)]), none, none, some (.getfield 92, 3, 7, 0, 0, 0, [(0, 7)]), none, none, some (.iload_n 1, 1, 0, 0, 0, 0, []), 
  some (.invokevirtual 111, 3, 93, 1, 0, 0, [(0, 6)]), none, none, some (.ifCond .eq 22, 3, 33, 0, 0, 0, []), none, none, some (.iload_n 2, 1, 0, 0, 0, 0, []), some (.ifCond .lt 18, 3, 33, 0, 0, 0, []), none, none, 
  some (.iload_n 2, 1, 0, 0, 0, 0, []), some (.aload_n 0, 1, 0, 0, 0, 0, []), some (.getfield 12, 3, 10, 0, 0, 0, [(0, 70)]), none, none, some (.iload_n 1, 1, 0, 0, 0, 0, []), 
  some (.ldc 128, 2, 0, 0, -1000000005, 0, [(0, 6)]), none, some (.invokevirtual 129, 3, 76, 2, 0, 0, [(0, 16)]), none, none, some (.ishr, 1, 0, 0, 0, 0, []), some (.ifCond .eq 6, 3, 36, 0, 0, 0, []), none, none, 
  some (.ldc 91, 2, 0, 0, -1000000001, 0, [(0, 0)]), none, some (.ireturn, 1, 0, 0, 0, 0, []), some (.iload_n 2, 1, 0, 0, 0, 0, []), some (.istore_n 3, 1, 0, 0, 0, 0, []), some (.iconst 0, 1, 0, 0, 0, 0, []), 
  some (.istore 4, 2, 0, 0, 0, 0, []), none, some (.iconst 0, 1, 0, 0, 0, 0, []), some (.istore 5, 2, 0, 0, 0, 0, []), none, some (.iload 5, 2, 0, 0, 0, 0, []), none, some (.aload_n 0, 1, 0, 0, 0, 0, []), 
  some (.getfield 12, 3, 10, 0, 0, 0, [(0, 70)]), none, none, some (.getfield 189, 3, 7, 2, 2, 0, [(0, 18)]), none, none, some (.invokevirtual 164, 3, 91, 0, 0, 0, [(0, 38)]), none, none, 
  some (.if_icmp .ge 60, 3, 116, 0, 0, 0, []), none, none, some (.aload_n 0, 1, 0, 0, 0, 0, []), some (.getfield 12, 3, 10, 0, 0, 0, [(0, 70)]), none, none, some (.iload 5, 2, 0, 0, 0, 0, []), none, 
  some (.iload_n 1, 1, 0, 0, 0, 0, []), some (.invokevirtual 202, 3, 75, 2, 0, 0, [(0, 68)]), none, none, some (.ifCond .eq 41, 3, 110, 0, 0, 0, []), none, none, some (.iload 4, 2, 0, 0, 0, 0, []), none, 
  some (.aload_n 0, 1, 0, 0, 0, 0, []), some (.getfield 12, 3, 10, 0, 0, 0, [(0, 70)]), none, none, some (.iload 5, 2, 0, 0, 0, 0, []), none, some (.iload_n 3, 1, 0, 0, 0, 0, []), some (.iconst 1, 1, 0, 0, 1, 0, []), 
  some (.iand, 1, 0, 0, 0, 0, []), some (.iconst 1, 1, 0, 0, 1, 0, []), some (.if_icmp .ne 7, 3, 91, 0, 0, 0, []), none, none, some (.iconst 1, 1, 0, 0, 1, 0, []), some (.goto 4, 3, 92, 0, 0, 0, []), none, none, 
  some (.iconst 0, 1, 0, 0, 0, 0, []), some (.invokevirtual 205, 3, 78, 2, 0, 0, [(0, 69)]), none, none, some (.ifCond .eq 7, 3, 102, 0, 0, 0, []), none, none, some (.iconst 0, 1, 0, 0, 0, 0, []), 
  some (.goto 4, 3, 103, 0, 0, 0, []), none, none, some (.iconst 1, 1, 0, 0, 1, 0, []), some (.iadd, 1, 0, 0, 0, 0, []), some (.istore 4, 2, 0, 0, 0, 0, []), none, some (.iload_n 3, 1, 0, 0, 0, 0, []), 
  some (.iconst 1, 1, 0, 0, 1, 0, []), some (.ishr, 1, 0, 0, 0, 0, []), some (.istore_n 3, 1, 0, 0, 0, 0, []), some (.iinc 5 1, 3, 0, 0, 1, 0, []), none, none, some (.goto (-69), 3, 44, 0, 0, 0, []), none, none, 
  some (.aload_n 0, 1, 0, 0, 0, 0, []), some (.getfield 12, 3, 10, 0, 0, 0, [(0, 70)]), none, none, some (.getfield 92, 3, 7, 0, 0, 0, [(0, 7)]), none, none, some (.iload_n 1, 1, 0, 0, 0, 0, []), 
  some (.bipush 7, 2, 0, 0, 7, 0, []), none, some (.iload 4, 2, 0, 0, 0, 0, []), none, some (.ifCond .le 7, 3, 135, 0, 0, 0, []), none, none, some (.iconst 1, 1, 0, 0, 1, 0, []), some (.goto 4, 3, 136, 0, 0, 0, []), none, 
  none, some (.iconst 0, 1, 0, 0, 0, 0, []), some (.invokevirtual 107, 3, 95, 3, 0, 0, [(0, 4)]), none, none, some (.iload 4, 2, 0, 0, 0, 0, []), none, some (.ireturn, 1, 0, 0, 0, 0, [])]
set_option maxRecDepth 100000 in
def cd125 : Cd := [some (.aload_n 0, 1, 0, 0, 0, 0, []), some (.getfield 12, 3, 10, 0, 0, 0, [(0, 70)]), none, none, some (.getfield 92, 3, 7, 0, 0, 0, [(0, 7)]), none, none, some (.iload_n 1, 1, 0, 0, 0, 0, []), 
  some (.invokevirtual 111, 3, 93, 1, 0, 0, [(0, 6)]), none, none, some (.ifCond .ne 6, 3, 17, 0, 0, 0, []), none, none, some (.ldc 91, 2, 0, 0, -1000000001, 0, [(0, 0)]), none, some (.ireturn, 1, 0, 0, 0, 0, []), 
  some (.iconst 0, 1, 0, 0, 0, 0, []), some (.istore_n 2, 1, 0, 0, 0, 0, []), some (.iconst 0, 1, 0, 0, 0, 0, []), some (.istore_n 3, 1, 0, 0, 0, 0, []), some (.iload_n 3, 1, 0, 0, 0, 0, []), 
  some (.aload_n 0, 1, 0, 0, 0, 0, []), some (.getfield 12, 3, 10, 0, 0, 0, [(0, 70)]), none, none, some (.getfield 189, 3, 7, 2, 2, 0, [(0, 18)]), none, none, some (.invokevirtual 164, 3, 91, 0, 0, 0, [(0, 38)]), none, 
  none, some (.if_icmp .ge 54, 3, 86, 0, 0, 0, []), none, none, some (.aload_n 0, 1, 0, 0, 0, 0, []), some (.getfield 12, 3, 10, 0, 0, 0, [(0, 70)]), none, none, some (.iload_n 3, 1, 0, 0, 0, 0, []), 
  some (.iload_n 1, 1, 0, 0, 0, 0, []), some (.invokevirtual 202, 3, 75, 2, 0, 0, [(0, 68)]), none, none, some (.ifCond .eq 36, 3, 80, 0, 0, 0, []), none, none, some (.aload_n 0, 1, 0, 0, 0, 0, []), 
  some (.getfield 12, 3, 10, 0, 0, 0, [(0, 70)]), none, none, some (.getfield 189, 3, 7, 2, 2, 0, [(0, 18)]), none, none, some (.iload_n 3, 1, 0, 0, 0, 0, []), some (.iconst 4, 1, 0, 0, 4, 0, []), 
  some (.invokevirtual 133, 3, 94, 2, 0, 0, [(0, 18)]), none, none, some (.iconst 1, 1, 0, 0, 1, 0, []), some (.if_icmp .ne 20, 3, 80, 0, 0, 0, []), none, none, some (.iload_n 2, 1, 0, 0, 0, 0, []), 
  some (.iconst 1, 1, 0, 0, 1, 0, []), some (.aload_n 0, 1, 0, 0, 0, 0, []), some (.getfield 12, 3, 10, 0, 0, 0, [(0, 70)]), none, none, some (.getfield 189, 3, 7, 2, 2, 0, [(0, 18)]), none, none, 
  some (.iload_n 3, 1, 0, 0, 0, 0, []), some (.iconst 5, 1, 0, 0, 5, 0, []), some (.invokevirtual 133, 3, 94, 2, 0, 0, [(0, 18)]), none, none, some (.ishl, 1, 0, 0, 0, 0, []), some (.ior, 1, 0, 0, 0, 0, []), 
  some (.istore_n 2, 1, 0, 0, 0, 0, []), some (.iinc 3 1, 3, 0, 0, 1, 0, []), none, none, some (.goto (-62), 3, 21, 0, 0, 0, []), none, none, some (.iload_n 2, 1, 0, 0, 0, 0, []), some (.ireturn, 1, 0, 0, 0, 0, [])]
set_option maxRecDepth 100000 in
def cd126 : Cd := [some (.aload_n 0, 1, 0, 0, 0, 0, []), some (.getfield 12, 3, 10, 0, 0, 0, [(0, 70)]), none, none, some (.getfield 189, 3, 7, 2, 2, 0, [(0, 18)]), none, none, some (.iload_n 1, 1, 0, 0, 0, 0, []), 
  some (.invokevirtual 111, 3, 93, 1, 0, 0, [(0, 6)]), none, none, some (.ifCond .ne 6, 3, 17, 0, 0, 0, []), none, none, some (.ldc 91, 2, 0, 0, -1000000001, 0, [(0, 0)]), none, some (.ireturn, 1, 0, 0, 0, 0, []), 
  some (.aload_n 0, 1, 0, 0, 0, 0, []), some (.getfield 12, 3, 10, 0, 0, 0, [(0, 70)]), none, none, some (.iload_n 1, 1, 0, 0, 0, 0, []), some (.iconst 5, 1, 0, 0, 5, 0, []), 
  some (.invokevirtual 192, 3, 74, 2, 0, 0, [(0, 62)]), none, none, some (.ifCond .ne 6, 3, 32, 0, 0, 0, []), none, none, some (.ldc 195, 2, 0, 0, -1000000012, 0, [(0, 10)]), none, some (.ireturn, 1, 0, 0, 0, 0, []), 
  some (.aload_n 0, 1, 0, 0, 0, 0, []), some (.getfield 12, 3, 10, 0, 0, 0, [(0, 70)]), none, none, some (.getfield 189, 3, 7, 2, 2, 0, [(0, 18)]), none, none, some (.iload_n 1, 1, 0, 0, 0, 0, []), 
  some (.bipush 6, 2, 0, 0, 6, 0, []), none, some (.invokevirtual 133, 3, 94, 2, 0, 0, [(0, 18)]), none, none, some (.istore_n 2, 1, 0, 0, 0, 0, []), some (.iload_n 2, 1, 0, 0, 0, 0, []), 
  some (.ldc 128, 2, 0, 0, -1000000005, 0, [(0, 6)]), none, some (.if_icmp .ne 13, 3, 62, 0, 0, 0, []), none, none, some (.aload_n 0, 1, 0, 0, 0, 0, []), some (.getfield 12, 3, 10, 0, 0, 0, [(0, 70)]), none, none, 
  some (.getfield 143, 3, 7, 5, 5, 0, [(0, 28)]), none, none, some (.goto 4, 3, 63, 0, 0, 0, []), none, none, some (.iload_n 2, 1, 0, 0, 0, 0, []), some (.aload_n 0, 1, 0, 0, 0, 0, []), 
  some (.getfield 12, 3, 10, 0, 0, 0, [(0, 70)]), none, none, some (.getfield 189, 3, 7, 2, 2, 0, [(0, 18)]), none, none, some (.iload_n 1, 1, 0, 0, 0, 0, []), some (.iconst 3, 1, 0, 0, 3, 0, []), 
  some (.invokevirtual 133, 3, 94, 2, 0, 0, [(0, 18)]), none, none, some (.isub, 1, 0, 0, 0, 0, []), some (.ireturn, 1, 0, 0, 0, 0, [])]
set_option maxRecDepth 100000 in
def cd127 : Cd := [some (.aload_n 0, 1, 0, 0, 0, 0, []), some (.getfield 12, 3, 10, 0, 0, 0, [(0, 70)]), none, none, some (.getfield 92, 3, 7, 0, 0, 0, [(0, 7)]), none, none, some (.iload_n 1, 1, 0, 0, 0, 0, []), 
  some (.invokevirtual 111, 3, 93, 1, 0, 0, [(0, 6)]), none, none, some (.ifCond .eq 18, 3, 29, 0, 0, 0, []), none, none, some (.aload_n 0, 1, 0, 0, 0, 0, []), some (.getfield 41, 3, 10, 5, 5, 0, [(0, 75)]), none, none, 
  some (.aload_n 0, 1, 0, 0, 0, 0, []), some (.getfield 12, 3, 10, 0, 0, 0, [(0, 70)]), none, none, some (.iload_n 1, 1, 0, 0, 0, 0, []), some (.invokevirtual 209, 3, 17, 2, 0, 0, [(0, 73)]), none, none, 
  some (.goto 5, 3, 31, 0, 0, 0, []), none, none, some (.ldc 91, 2, 0, 0, -1000000001, 0, [(0, 0)]), none, some (.ireturn, 1, 0, 0, 0, 0, [])]
set_option maxRecDepth 100000 in
def cd128 : Cd := [some (.aload_n 0, 1, 0, 0, 0, 0, []), some (.getfield 55, 3, 10, 7, 7, 0, [(0, 77)]), none, none, some (.invokevirtual 213, 3, 101, 0, 0, 0, [(0, 83)]), none, none, some (.ifCond .ne 6, 3, 13, 0, 0, 0, []), none, none, 
  some (.ldc 102, 2, 0, 0, -1000000003, 0, [(0, 1)]), none, some (.ireturn, 1, 0, 0, 0, 0, []), some (.aload_n 0, 1, 0, 0, 0, 0, []), some (.getfield 55, 3, 10, 7, 7, 0, [(0, 77)]), none, none, 
  some (.iload_n 1, 1, 0, 0, 0, 0, []), some (.invokevirtual 216, 3, 102, 1, 0, 0, [(0, 84)]), none, none, some (.aload_n 0, 1, 0, 0, 0, 0, []), some (.getfield 55, 3, 10, 7, 7, 0, [(0, 77)]), none, none, 
  some (.iload_n 2, 1, 0, 0, 0, 0, []), some (.invokevirtual 216, 3, 102, 1, 0, 0, [(0, 84)]), none, none, some (.aload_n 0, 1, 0, 0, 0, 0, []), some (.getfield 55, 3, 10, 7, 7, 0, [(0, 77)]), none, none, 
  some (.iload_n 3, 1, 0, 0, 0, 0, []), some (.invokevirtual 216, 3, 102, 1, 0, 0, [(0, 84)]), none, none, some (.aload_n 0, 1, 0, 0, 0, 0, []), some (.getfield 55, 3, 10, 7, 7, 0, [(0, 77)]), none, none, 
  some (.invokevirtual 219, 3, 100, 0, 0, 0, [(0, 85)]), none, none, some (.ireturn, 1, 0, 0, 0, 0, [])]
set_option maxRecDepth 100000 in
def cd129 : Cd := [some (.iload_n 1, 1, 0, 0, 0, 0, []), some (.iconst 0, 1, 0, 0, 0, 0, []), some (.aload_n 0, 1, 0, 0, 0, 0, []), some (.getfield 55, 3, 10, 7, 7, 0, [(0, 77)]), none, none, 
  some (.invokevirtual 219, 3, 100, 0, 0, 0, [(0, 85)]), none, none, some (.invokestatic 87, 3, 156, 3, 0, 0, [(0, 1)]), none, none, some (.ifCond .ne 6, 3, 18, 0, 0, 0, []), none, none, 
  some (.ldc 91, 2, 0, 0, -1000000001, 0, [(0, 0)]), none, some (.ireturn, 1, 0, 0, 0, 0, []), some (.aload_n 0, 1, 0, 0, 0, 0, []), some (.getfield 55, 3, 10, 7, 7, 0, [(0, 77)]), none, none, 
  some (.iload_n 1, 1, 0, 0, 0, 0, []), some (.invokevirtual 222, 3, 103, 1, 0, 0, [(0, 87)]), none, none, some (.iload_n 1, 1, 0, 0, 0, 0, []), some (.ireturn, 1, 0, 0, 0, 0, [])]
set_option maxRecDepth 100000 in
def cd130 : Cd := [some (.iload_n 1, 1, 0, 0, 0, 0, []), some (.iconst 0, 1, 0, 0, 0, 0, []), some (.sipush 999, 3, 0, 0, 999, 0, []), none, none, some (.invokestatic 87, 3, 156, 3, 0, 0, [(0, 1)]), none, none, 
  some (.ifCond .ne 14, 3, 22, 0, 0, 0, []), none, none, some (.aload_n 0, 1, 0, 0, 0, 0, []), some (.getfield 55, 3, 10, 7, 7, 0, [(0, 77)]), none, none, some (.iconst 0, 1, 0, 0, 0, 0, []), 
  some (.invokevirtual 222, 3, 103, 1, 0, 0, [(0, 87)]), none, none, some (.ldc 91, 2, 0, 0, -1000000001, 0, [(0, 0)]), none, some (.ireturn, 1, 0, 0, 0, 0, []), some (.aload_n 0, 1, 0, 0, 0, 0, []), 
  some (.getfield 64, 3, 10, 8, 8, 0, [(0, 78)]), none, none, some (.invokevirtual 225, 3, 27, 0, 0, 0, [(0, 89)]), none, none, some (.istore_n 2, 1, 0, 0, 0, 0, []), some (.aload_n 0, 1, 0, 0, 0, 0, []), 
  some (.getfield 55, 3, 10, 7, 7, 0, [(0, 77)]), none, none, some (.iconst 0, 1, 0, 0, 0, 0, []), some (.invokevirtual 222, 3, 103, 1, 0, 0, [(0, 87)]), none, none, some (.iload_n 2, 1, 0, 0, 0, 0, []), 
  some (.ldc 128, 2, 0, 0, -1000000005, 0, [(0, 6)]), none, some (.if_icmp .eq 8, 3, 49, 0, 0, 0, []), none, none, some (.bipush (-100), 2, 0, 0, -100, 0, []), none, some (.iload_n 2, 1, 0, 0, 0, 0, []), 
  some (.isub, 1, 0, 0, 0, 0, []), some (.ireturn, 1, 0, 0, 0, 0, []), some (.aload_n 0, 1, 0, 0, 0, 0, []), some (.getfield 12, 3, 10, 0, 0, 0, [(0, 70)]), none, none, some (.getfield 228, 3, 7, 3, 3, 0, [(0, 21)]), none, 
  none, some (.invokevirtual 96, 3, 92, 0, 0, 0, [(0, 2)]), none, none, some (.ifCond .eq 6, 3, 65, 0, 0, 0, []), none, none, some (.ldc 102, 2, 0, 0, -1000000003, 0, [(0, 1)]), none, some (.ireturn, 1, 0, 0, 0, 0, []), 
  some (.aload_n 0, 1, 0, 0, 0, 0, []), some (.getfield 12, 3, 10, 0, 0, 0, [(0, 70)]), none, none, some (.getfield 228, 3, 7, 3, 3, 0, [(0, 21)]), none, none, some (.invokevirtual 103, 3, 98, 0, 0, 0, [(0, 3)]), none, 
  none, some (.istore_n 3, 1, 0, 0, 0, 0, []), some (.aload_n 0, 1, 0, 0, 0, 0, []), some (.getfield 12, 3, 10, 0, 0, 0, [(0, 70)]), none, none, some (.getfield 228, 3, 7, 3, 3, 0, [(0, 21)]), none, none, 
  some (.iload_n 3, 1, 0, 0, 0, 0, []), some (.iconst 1, 1, 0, 0, 1, 0, []), some (.iload_n 1, 1, 0, 0, 0, 0, []), some (.invokevirtual 107, 3, 95, 3, 0, 0, [(0, 4)]), none, none, some (.aload_n 0, 1, 0, 0, 0, 0, []), 
  some (.getfield 64, 3, 10, 8, 8, 0, [(0, 78)]), none, none, some (.aload_n 0, 1, 0, 0, 0, 0, []), some (.getfield 12, 3, 10, 0, 0, 0, [(0, 70)]), none, none, some (.getfield 228, 3, 7, 3, 3, 0, [(0, 21)]), none, none, 
  some (.iload_n 3, 1, 0, 0, 0, 0, []), some (.invokevirtual 231, 3, 28, 2, 0, 0, [(0, 115)]), none, none, some (.iload_n 3, 1, 0, 0, 0, 0, []), some (.ireturn, 1, 0, 0, 0, 0, [])]
set_option maxRecDepth 100000 in
def cd131 : Cd := [some (.aload_n 0, 1, 0, 0, 0, 0, []), some (.getfield 12, 3, 10, 0, 0, 0, [(0, 70)]), none, none, some (.getfield 228, 3, 7, 3, 3, 0, [(0, 21)]), none, none, some (.iload_n 1, 1, 0, 0, 0, 0, []), 
  some (.invokevirtual 111, 3, 93, 1, 0, 0, [(0, 6)]), none, none, some (.ifCond .eq 12, 3, 23, 0, 0, 0, []), none, none, some (.iload_n 2, 1, 0, 0, 0, 0, []), some (.iconst 0, 1, 0, 0, 0, 0, []), 
  some (.iconst 2, 1, 0, 0, 2, 0, []), some (.invokestatic 87, 3, 156, 3, 0, 0, [(0, 1)]), none, none, some (.ifCond .ne 6, 3, 26, 0, 0, 0, []), none, none, some (.ldc 91, 2, 0, 0, -1000000001, 0, [(0, 0)]), none, 
  some (.ireturn, 1, 0, 0, 0, 0, []), some (.aload_n 0, 1, 0, 0, 0, 0, []), some (.getfield 12, 3, 10, 0, 0, 0, [(0, 70)]), none, none, some (.getfield 228, 3, 7, 3, 3, 0, [(0, 21)]), none, none, 
  some (.iload_n 1, 1, 0, 0, 0, 0, []), some (.iload_n 2, 1, 0, 0, 0, 0, []), some (.invokevirtual 133, 3, 94, 2, 0, 0, [(0, 18)]), none, none, some (.ireturn, 1, 0, 0, 0, 0, [])]
set_option maxRecDepth 100000 in
def cd132 : Cd := [some (.iload_n 1, 1, 0, 0, 0, 0, []), some (.iconst 0, 1, 0, 0, 0, 0, []), some (.iconst 5, 1, 0, 0, 5, 0, []), some (.invokestatic 87, 3, 156, 3, 0, 0, [(0, 1)]), none, none, some (.ifCond .eq 14, 3, 20, 0, 0, 0, []), 
  none, none, some (.aload_n 0, 1, 0, 0, 0, 0, []), some (.getfield 12, 3, 10, 0, 0, 0, [(0, 70)]), none, none, some (.iload_n 1, 1, 0, 0, 0, 0, []), some (.invokevirtual 235, 3, 83, 1, 0, 0, [(0, 121)]), none, none, 
  some (.goto 5, 3, 22, 0, 0, 0, []), none, none, some (.ldc 91, 2, 0, 0, -1000000001, 0, [(0, 0)]), none, some (.ireturn, 1, 0, 0, 0, 0, [])]
set_option maxRecDepth 100000 in
def cd133 : Cd := [some (.iload_n 1, 1, 0, 0, 0, 0, []), some (.iconst 0, 1, 0, 0, 0, 0, []), some (.iconst 5, 1, 0, 0, 5, 0, []), some (.invokestatic 87, 3, 156, 3, 0, 0, [(0, 1)]), none, none, some (.ifCond .eq 22, 3, 28, 0, 0, 0, []), 
  none, none, some (.aload_n 0, 1, 0, 0, 0, 0, []), some (.getfield 25, 3, 10, 3, 3, 0, [(0, 73)]), none, none, some (.aload_n 0, 1, 0, 0, 0, 0, []), some (.getfield 12, 3, 10, 0, 0, 0, [(0, 70)]), none, none, 
  some (.iload_n 1, 1, 0, 0, 0, 0, []), some (.iload_n 2, 1, 0, 0, 0, 0, []), some (.iload_n 3, 1, 0, 0, 0, 0, []), some (.iload 4, 2, 0, 0, 0, 0, []), none, some (.invokevirtual 238, 3, 48, 5, 0, 0, [(0, 123)]), none, 
  none, some (.goto 5, 3, 30, 0, 0, 0, []), none, none, some (.ldc 91, 2, 0, 0, -1000000001, 0, [(0, 0)]), none, some (.ireturn, 1, 0, 0, 0, 0, [])]
set_option maxRecDepth 100000 in
def cd134 : Cd := [some (.aload_n 0, 1, 0, 0, 0, 0, []), some (.getfield 12, 3, 10, 0, 0, 0, [(0, 70)]), none, none, some (.getfield 136, 3, 7, 1, 1, 0, [(0, 14)]), none, none, some (.iload_n 1, 1, 0, 0, 0, 0, []), 
  some (.invokevirtual 111, 3, 93, 1, 0, 0, [(0, 6)]), none, none, some (.ifCond .ne 6, 3, 17, 0, 0, 0, []), none, none, some (.ldc 91, 2, 0, 0, -1000000001, 0, [(0, 0)]), none, some (.ireturn, 1, 0, 0, 0, 0, []), 
  some (.aload_n 0, 1, 0, 0, 0, 0, []), some (.getfield 12, 3, 10, 0, 0, 0, [(0, 70)]), none, none, some (.iload_n 1, 1, 0, 0, 0, 0, []), some (.invokevirtual 180, 3, 62, 1, 0, 0, [(0, 55)]), none, none, 
  some (.ifCond .eq 6, 3, 31, 0, 0, 0, []), none, none, some (.ldc 159, 2, 0, 0, -1000000002, 0, [(0, 8)]), none, some (.ireturn, 1, 0, 0, 0, 0, []), some (.aload_n 0, 1, 0, 0, 0, 0, []), 
  some (.getfield 25, 3, 10, 3, 3, 0, [(0, 73)]), none, none, some (.aload_n 0, 1, 0, 0, 0, 0, []), some (.getfield 12, 3, 10, 0, 0, 0, [(0, 70)]), none, none, some (.iload_n 1, 1, 0, 0, 0, 0, []), 
  some (.iconst 0, 1, 0, 0, 0, 0, []), some (.invokevirtual 242, 3, 52, 3, 0, 0, [(0, 133)]), none, none, some (.istore_n 2, 1, 0, 0, 0, 0, []), some (.aload_n 0, 1, 0, 0, 0, 0, []), 
  some (.getfield 25, 3, 10, 3, 3, 0, [(0, 73)]), none, none, some (.aload_n 0, 1, 0, 0, 0, 0, []), some (.getfield 12, 3, 10, 0, 0, 0, [(0, 70)]), none, none, some (.iload_n 1, 1, 0, 0, 0, 0, []), 
  some (.iconst 1, 1, 0, 0, 1, 0, []), some (.invokevirtual 242, 3, 52, 3, 0, 0, [(0, 133)]), none, none, some (.istore_n 3, 1, 0, 0, 0, 0, []), some (.aload_n 0, 1, 0, 0, 0, 0, []), 
  some (.getfield 25, 3, 10, 3, 3, 0, [(0, 73)]), none, none, some (.aload_n 0, 1, 0, 0, 0, 0, []), some (.getfield 12, 3, 10, 0, 0, 0, [(0, 70)]), none, none, some (.iload_n 1, 1, 0, 0, 0, 0, []), 
  some (.iconst 2, 1, 0, 0, 2, 0, []), some (.invokevirtual 242, 3, 52, 3, 0, 0, [(0, 133)]), none, none, some (.istore 4, 2, 0, 0, 0, 0, []), none, some (.aload_n 0, 1, 0, 0, 0, 0, []), 
  some (.getfield 12, 3, 10, 0, 0, 0, [(0, 70)]), none, none, some (.getfield 136, 3, 7, 1, 1, 0, [(0, 14)]), none, none, some (.iload_n 1, 1, 0, 0, 0, 0, []), some (.iconst 3, 1, 0, 0, 3, 0, []), 
  some (.aload_n 0, 1, 0, 0, 0, 0, []), some (.getfield 12, 3, 10, 0, 0, 0, [(0, 70)]), none, none, some (.getfield 136, 3, 7, 1, 1, 0, [(0, 14)]), none, none, some (.iload_n 1, 1, 0, 0, 0, 0, []), 
  some (.iconst 3, 1, 0, 0, 3, 0, []), some (.invokevirtual 133, 3, 94, 2, 0, 0, [(0, 18)]), none, none, some (.iload_n 2, 1, 0, 0, 0, 0, []), some (.isub, 1, 0, 0, 0, 0, []), 
  some (.invokevirtual 107, 3, 95, 3, 0, 0, [(0, 4)]), none, none, some (.aload_n 0, 1, 0, 0, 0, 0, []), some (.getfield 12, 3, 10, 0, 0, 0, [(0, 70)]), none, none, some (.iload_n 1, 1, 0, 0, 0, 0, []), 
  some (.iconst 5, 1, 0, 0, 5, 0, []), some (.iload_n 3, 1, 0, 0, 0, 0, []), some (.invokevirtual 246, 3, 84, 3, 0, 0, [(0, 135)]), none, none, some (.aload_n 0, 1, 0, 0, 0, 0, []), 
  some (.getfield 12, 3, 10, 0, 0, 0, [(0, 70)]), none, none, some (.iload_n 1, 1, 0, 0, 0, 0, []), some (.iconst 4, 1, 0, 0, 4, 0, []), some (.iload 4, 2, 0, 0, 0, 0, []), none, 
  some (.invokevirtual 246, 3, 84, 3, 0, 0, [(0, 135)]), none, none, some (.aload_n 0, 1, 0, 0, 0, 0, []), some (.getfield 12, 3, 10, 0, 0, 0, [(0, 70)]), none, none, some (.getfield 136, 3, 7, 1, 1, 0, [(0, 14)]), none, 
  none, some (.iload_n 1, 1, 0, 0, 0, 0, []), some (.bipush 10, 2, 0, 0, 10, 0, []), none, some (.iconst 0, 1, 0, 0, 0, 0, []), some (.invokevirtual 107, 3, 95, 3, 0, 0, [(0, 4)]), none, none, 
  some (.iload 4, 2, 0, 0, 0, 0, []), none, some (.ireturn, 1, 0, 0, 0, 0, [])]
set_option maxRecDepth 100000 in
def cd135 : Cd := [some (.aload_n 0, 1, 0, 0, 0, 0, []), some (.getfield 12, 3, 10, 0, 0, 0, [(0, 70)]), none, none, some (.getfield 136, 3, 7, 1, 1, 0, [(0, 14)]), none, none, some (.iload_n 1, 1, 0, 0, 0, 0, []), 
  some (.invokevirtual 111, 3, 93, 1, 0, 0, [(0, 6)]), none, none, some (.ifCond .eq 12, 3, 23, 0, 0, 0, []), none, none, some (.iload_n 2, 1, 0, 0, 0, 0, []), some (.iconst 0, 1, 0, 0, 0, 0, []), 
  some (.iconst 2, 1, 0, 0, 2, 0, []), some (.invokestatic 87, 3, 156, 3, 0, 0, [(0, 1)]), none, none, some (.ifCond .ne 6, 3, 26, 0, 0, 0, []), none, none, some (.ldc 91, 2, 0, 0, -1000000001, 0, [(0, 0)]), none, 
  some (.ireturn, 1, 0, 0, 0, 0, []), some (.aload_n 0, 1, 0, 0, 0, 0, []), some (.getfield 12, 3, 10, 0, 0, 0, [(0, 70)]), none, none, some (.iload_n 1, 1, 0, 0, 0, 0, []), 
  some (.invokevirtual 180, 3, 62, 1, 0, 0, [(0, 55)]), none, none, some (.ifCond .eq 8, 3, 42, 0, 0, 0, []), none, none, some (.ldc 159, 2, 0, 0, -1000000002, 0, [(0, 8)]), none, some (.goto 16, 3, 55, 0, 0, 0, []), none, 
  none, some (.aload_n 0, 1, 0, 0, 0, 0, []), some (.getfield 25, 3, 10, 3, 3, 0, [(0, 73)]), none, none, some (.aload_n 0, 1, 0, 0, 0, 0, []), some (.getfield 12, 3, 10, 0, 0, 0, [(0, 70)]), none, none, 
  some (.iload_n 1, 1, 0, 0, 0, 0, []), some (.iload_n 2, 1, 0, 0, 0, 0, []), some (.invokevirtual 242, 3, 52, 3, 0, 0, [(0, 133)]), none, none, some (.ireturn, 1, 0, 0, 0, 0, [])]
set_option maxRecDepth 100000 in
def cd136 : Cd := [some (.aload_n 0, 1, 0, 0, 0, 0, []), some (.iload_n 1, 1, 0, 0, 0, 0, []), some (.invokevirtual 249, 3, 138, 1, 0, 0, [(0, 138)]), none, none, some (.istore_n 2, 1, 0, 0, 0, 0, []), some (.iload_n 2, 1, 0, 0, 0, 0, []), 
  some (.ifCond .eq 5, 3, 12, 0, 0, 0, []), none, none, some (.iload_n 2, 1, 0, 0, 0, 0, []), some (.ireturn, 1, 0, 0, 0, 0, []), some (.aload_n 0, 1, 0, 0, 0, 0, []), some (.getfield 12, 3, 10, 0, 0, 0, [(0, 70)]), none, 
  none, some (.getfield 136, 3, 7, 1, 1, 0, [(0, 14)]), none, none, some (.iload_n 1, 1, 0, 0, 0, 0, []), some (.bipush 6, 2, 0, 0, 6, 0, []), none, some (.invokevirtual 133, 3, 94, 2, 0, 0, [(0, 18)]), none, none, 
  some (.istore_n 3, 1, 0, 0, 0, 0, []), some (.iload_n 3, 1, 0, 0, 0, 0, []), some (.aload_n 0, 1, 0, 0, 0, 0, []), some (.getfield 12, 3, 10, 0, 0, 0, [(0, 70)]), none, none, 
  some (.getfield 136, 3, 7, 1, 1, 0, [(0, 14)]), none, none, some (.iload_n 1, 1, 0, 0, 0, 0, []), some (.bipush 13, 2, 0, 0, 13, 0, []), none, some (.invokevirtual 133, 3, 94, 2, 0, 0, [(0, 18)]), none, none, 
  some (.isub, 1, 0, 0, 0, 0, []), some (.istore 4, 2, 0, 0, 0, 0, []), none, some (.aload_n 0, 1, 0, 0, 0, 0, []), some (.getfield 25, 3, 10, 3, 3, 0, [(0, 73)]), none, none, some (.aload_n 0, 1, 0, 0, 0, 0, []), 
  some (.getfield 12, 3, 10, 0, 0, 0, [(0, 70)]), none, none, some (.iconst 5, 1, 0, 0, 5, 0, []), some (.iload 4, 2, 0, 0, 0, 0, []), none, some (.aload_n 0, 1, 0, 0, 0, 0, []), 
  some (.getfield 12, 3, 10, 0, 0, 0, [(0, 70)]), none, none, some (.getfield 136, 3, 7, 1, 1, 0, [(0, 14)]), none, none, some (.iload_n 1, 1, 0, 0, 0, 0, []), some (.iconst 1, 1, 0, 0, 1, 0, []), 
  some (.invokevirtual 133, 3, 94, 2, 0, 0, [(0, 18)]), none, none, some (.iconst 0, 1, 0, 0, 0, 0, []), some (.invokevirtual 238, 3, 48, 5, 0, 0, [(0, 123)]), none, none, some (.istore 5, 2, 0, 0, 0, 0, []), none, 
  some (.iload 5, 2, 0, 0, 0, 0, []), none, some (.bipush 99, 2, 0, 0, 99, 0, []), none, some (.invokestatic 252, 3, 1002, 2, 0, 0, [(0, 14)]), none, none, some (.istore 6, 2, 0, 0, 0, 0, []), none, 
  some (.aload_n 0, 1, 0, 0, 0, 0, []), some (.getfield 12, 3, 10, 0, 0, 0, [(0, 70)]), none, none, some (.getfield 136, 3, 7, 1, 1, 0, [(0, 14)]), none, none, some (.iload_n 1, 1, 0, 0, 0, 0, []), 
  some (.bipush 13, 2, 0, 0, 13, 0, []), none, some (.iload_n 3, 1, 0, 0, 0, 0, []), some (.invokevirtual 107, 3, 95, 3, 0, 0, [(0, 4)]), none, none, some (.iload 6, 2, 0, 0, 0, 0, []), none, 
  some (.ifCond .le 14, 3, 111, 0, 0, 0, []), none, none, some (.aload_n 0, 1, 0, 0, 0, 0, []), some (.getfield 12, 3, 10, 0, 0, 0, [(0, 70)]), none, none, some (.iload_n 1, 1, 0, 0, 0, 0, []), 
  some (.iload 6, 2, 0, 0, 0, 0, []), none, some (.invokevirtual 257, 3, 85, 2, 0, 0, [(0, 139)]), none, none, some (.pop, 1, 0, 0, 0, 0, []), some (.iload 6, 2, 0, 0, 0, 0, []), none, some (.ireturn, 1, 0, 0, 0, 0, [])]
set_option maxRecDepth 100000 in
def cd137 : Cd := [some (.iload_n 2, 1, 0, 0, 0, 0, []), some (.iconst 1, 1, 0, 0, 1, 0, []), some (.bipush 99, 2, 0, 0, 99, 0, []), none, some (.invokestatic 87, 3, 156, 3, 0, 0, [(0, 1)]), none, none, 
  some (.ifCond .ne 6, 3, 13, 0, 0, 0, []), none, none, some (.ldc 91, 2, 0, 0, -1000000001, 0, [(0, 0)]), none, some (.ireturn, 1, 0, 0, 0, 0, []), some (.aload_n 0, 1, 0, 0, 0, 0, []), 
  some (.iload_n 1, 1, 0, 0, 0, 0, []), some (.invokevirtual 249, 3, 138, 1, 0, 0, [(0, 138)]), none, none, some (.istore_n 3, 1, 0, 0, 0, 0, []), some (.iload_n 3, 1, 0, 0, 0, 0, []), 
  some (.ifCond .eq 7, 3, 27, 0, 0, 0, []), none, none, some (.iload_n 3, 1, 0, 0, 0, 0, []), some (.goto 13, 3, 37, 0, 0, 0, []), none, none, some (.aload_n 0, 1, 0, 0, 0, 0, []), 
  some (.getfield 12, 3, 10, 0, 0, 0, [(0, 70)]), none, none, some (.iload_n 1, 1, 0, 0, 0, 0, []), some (.iload_n 2, 1, 0, 0, 0, 0, []), some (.ineg, 1, 0, 0, 0, 0, []), 
  some (.invokevirtual 257, 3, 85, 2, 0, 0, [(0, 139)]), none, none, some (.ireturn, 1, 0, 0, 0, 0, [])]
set_option maxRecDepth 100000 in
def cd138 : Cd := [some (.aload_n 0, 1, 0, 0, 0, 0, []), some (.getfield 12, 3, 10, 0, 0, 0, [(0, 70)]), none, none, some (.getfield 136, 3, 7, 1, 1, 0, [(0, 14)]), none, none, some (.iload_n 1, 1, 0, 0, 0, 0, []), 
  some (.invokevirtual 111, 3, 93, 1, 0, 0, [(0, 6)]), none, none, some (.ifCond .ne 6, 3, 17, 0, 0, 0, []), none, none, some (.ldc 91, 2, 0, 0, -1000000001, 0, [(0, 0)]), none, some (.ireturn, 1, 0, 0, 0, 0, []), 
  some (.aload_n 0, 1, 0, 0, 0, 0, []), some (.getfield 12, 3, 10, 0, 0, 0, [(0, 70)]), none, none, some (.iload_n 1, 1, 0, 0, 0, 0, []), some (.invokevirtual 180, 3, 62, 1, 0, 0, [(0, 55)]), none, none, 
  some (.ifCond .eq 6, 3, 31, 0, 0, 0, []), none, none, some (.ldc 159, 2, 0, 0, -1000000002, 0, [(0, 8)]), none, some (.ireturn, 1, 0, 0, 0, 0, []), some (.aload_n 0, 1, 0, 0, 0, 0, []), 
  some (.getfield 12, 3, 10, 0, 0, 0, [(0, 70)]), none, none, some (.getfield 260, 3, 7, 4, 4, 0, [(0, 23)]), none, none, some (.invokevirtual 96, 3, 92, 0, 0, 0, [(0, 2)]), none, none, 
  some (.ifCond .eq 8, 3, 49, 0, 0, 0, []), none, none, some (.ldc 102, 2, 0, 0, -1000000003, 0, [(0, 1)]), none, some (.goto 4, 3, 50, 0, 0, 0, []), none, none, some (.iconst 0, 1, 0, 0, 0, 0, []), 
  some (.ireturn, 1, 0, 0, 0, 0, [])]
set_option maxRecDepth 100000 in
def cd139 : Cd := [some (.aload_n 0, 1, 0, 0, 0, 0, []), some (.getfield 12, 3, 10, 0, 0, 0, [(0, 70)]), none, none, some (.getfield 260, 3, 7, 4, 4, 0, [(0, 23)]), none, none, some (.iload_n 1, 1, 0, 0, 0, 0, []), 
  some (.invokevirtual 111, 3, 93, 1, 0, 0, [(0, 6)]), none, none, some (.ifCond .ne 6, 3, 17, 0, 0, 0, []), none, none, some (.ldc 91, 2, 0, 0, -1000000001, 0, [(0, 0)]), none, some (.ireturn, 1, 0, 0, 0, 0, []), 
  some (.aload_n 0, 1, 0, 0, 0, 0, []), some (.getfield 12, 3, 10, 0, 0, 0, [(0, 70)]), none, none, some (.getfield 260, 3, 7, 4, 4, 0, [(0, 23)]), none, none, some (.iload_n 1, 1, 0, 0, 0, 0, []), 
  some (.iconst 1, 1, 0, 0, 1, 0, []), some (.invokevirtual 133, 3, 94, 2, 0, 0, [(0, 18)]), none, none, some (.ifCond .lt 6, 3, 35, 0, 0, 0, []), none, none, some (.ldc 195, 2, 0, 0, -1000000012, 0, [(0, 10)]), none, 
  some (.ireturn, 1, 0, 0, 0, 0, []), some (.aload_n 0, 1, 0, 0, 0, 0, []), some (.getfield 12, 3, 10, 0, 0, 0, [(0, 70)]), none, none, some (.getfield 260, 3, 7, 4, 4, 0, [(0, 23)]), none, none, 
  some (.iload_n 1, 1, 0, 0, 0, 0, []), some (.iconst 3, 1, 0, 0, 3, 0, []), some (.invokevirtual 133, 3, 94, 2, 0, 0, [(0, 18)]), none, none, some (.ldc 128, 2, 0, 0, -1000000005, 0, [(0, 6)]), none, 
  some (.if_icmp .ne 25, 3, 74, 0, 0, 0, []), none, none, some (.aload_n 0, 1, 0, 0, 0, 0, []), some (.getfield 12, 3, 10, 0, 0, 0, [(0, 70)]), none, none, some (.aload_n 0, 1, 0, 0, 0, 0, []), 
  some (.getfield 12, 3, 10, 0, 0, 0, [(0, 70)]), none, none, some (.getfield 260, 3, 7, 4, 4, 0, [(0, 23)]), none, none, some (.iload_n 1, 1, 0, 0, 0, 0, []), some (.iconst 0, 1, 0, 0, 0, 0, []), 
  some (.invokevirtual 133, 3, 94, 2, 0, 0, [(0, 18)]), none, none, some (.invokevirtual 180, 3, 62, 1, 0, 0, [(0, 55)]), none, none, some (.ifCond .eq 6, 3, 77, 0, 0, 0, []), none, none, 
  some (.ldc 159, 2, 0, 0, -1000000002, 0, [(0, 8)]), none, some (.ireturn, 1, 0, 0, 0, 0, []), some (.aload_n 0, 1, 0, 0, 0, 0, []), some (.getfield 12, 3, 10, 0, 0, 0, [(0, 70)]), none, none, 
  some (.getfield 260, 3, 7, 4, 4, 0, [(0, 23)]), none, none, some (.iload_n 1, 1, 0, 0, 0, 0, []), some (.iconst 3, 1, 0, 0, 3, 0, []), some (.aload_n 0, 1, 0, 0, 0, 0, []), some (.getfield 12, 3, 10, 0, 0, 0, [(0, 70)]), 
  none, none, some (.getfield 143, 3, 7, 5, 5, 0, [(0, 28)]), none, none, some (.invokevirtual 107, 3, 95, 3, 0, 0, [(0, 4)]), none, none, some (.iconst 1, 1, 0, 0, 1, 0, []), some (.ireturn, 1, 0, 0, 0, 0, [])]
set_option maxRecDepth 100000 in
def cd140 : Cd := [some (.aload_n 0, 1, 0, 0, 0, 0, []), some (.getfield 12, 3, 10, 0, 0, 0, [(0, 70)]), none, none, some (.getfield 260, 3, 7, 4, 4, 0, [(0, 23)]), none, none, some (.iload_n 1, 1, 0, 0, 0, 0, []), 
  some (.invokevirtual 111, 3, 93, 1, 0, 0, [(0, 6)]), none, none, some (.ifCond .eq 12, 3, 23, 0, 0, 0, []), none, none, some (.iload_n 2, 1, 0, 0, 0, 0, []), some (.iconst 0, 1, 0, 0, 0, 0, []), 
  some (.iconst 3, 1, 0, 0, 3, 0, []), some (.invokestatic 87, 3, 156, 3, 0, 0, [(0, 1)]), none, none, some (.ifCond .ne 6, 3, 26, 0, 0, 0, []), none, none, some (.ldc 91, 2, 0, 0, -1000000001, 0, [(0, 0)]), none, 
  some (.ireturn, 1, 0, 0, 0, 0, []), some (.aload_n 0, 1, 0, 0, 0, 0, []), some (.getfield 12, 3, 10, 0, 0, 0, [(0, 70)]), none, none, some (.getfield 260, 3, 7, 4, 4, 0, [(0, 23)]), none, none, 
  some (.iload_n 1, 1, 0, 0, 0, 0, []), some (.iload_n 2, 1, 0, 0, 0, 0, []), some (.invokevirtual 133, 3, 94, 2, 0, 0, [(0, 18)]), none, none, some (.ireturn, 1, 0, 0, 0, 0, [])]
set_option maxRecDepth 100000 in
def cd141 : Cd := [some (.aload_n 0, 1, 0, 0, 0, 0, []), some (.getfield 12, 3, 10, 0, 0, 0, [(0, 70)]), none, none, some (.getfield 136, 3, 7, 1, 1, 0, [(0, 14)]), none, none, some (.iload_n 1, 1, 0, 0, 0, 0, []), 
  some (.invokevirtual 111, 3, 93, 1, 0, 0, [(0, 6)]), none, none, some (.ifCond .eq 14, 3, 25, 0, 0, 0, []), none, none, some (.iload_n 2, 1, 0, 0, 0, 0, []), some (.iconst 0, 1, 0, 0, 0, 0, []), 
  some (.sipush 999, 3, 0, 0, 999, 0, []), none, none, some (.invokestatic 87, 3, 156, 3, 0, 0, [(0, 1)]), none, none, some (.ifCond .ne 6, 3, 28, 0, 0, 0, []), none, none, some (.ldc 91, 2, 0, 0, -1000000001, 0, [(0, 0)]), 
  none, some (.ireturn, 1, 0, 0, 0, 0, []), some (.aload_n 0, 1, 0, 0, 0, 0, []), some (.getfield 12, 3, 10, 0, 0, 0, [(0, 70)]), none, none, some (.iload_n 1, 1, 0, 0, 0, 0, []), some (.iload_n 2, 1, 0, 0, 0, 0, []), 
  some (.invokevirtual 263, 3, 86, 2, 0, 0, [(0, 145)]), none, none, some (.ireturn, 1, 0, 0, 0, 0, [])]
set_option maxRecDepth 100000 in
def cd142 : Cd := [some (.iload_n 1, 1, 0, 0, 0, 0, []), some (.iconst 1, 1, 0, 0, 1, 0, []), some (.bipush 60, 2, 0, 0, 60, 0, []), none, some (.invokestatic 87, 3, 156, 3, 0, 0, [(0, 1)]), none, none, 
  some (.ifCond .ne 6, 3, 13, 0, 0, 0, []), none, none, some (.ldc 91, 2, 0, 0, -1000000001, 0, [(0, 0)]), none, some (.ireturn, 1, 0, 0, 0, 0, []), some (.aload_n 0, 1, 0, 0, 0, 0, []), 
  some (.getfield 12, 3, 10, 0, 0, 0, [(0, 70)]), none, none, some (.getfield 143, 3, 7, 5, 5, 0, [(0, 28)]), none, none, some (.iload_n 1, 1, 0, 0, 0, 0, []), some (.iadd, 1, 0, 0, 0, 0, []), 
  some (.sipush 999, 3, 0, 0, 999, 0, []), none, none, some (.if_icmp .le 6, 3, 31, 0, 0, 0, []), none, none, some (.ldc 102, 2, 0, 0, -1000000003, 0, [(0, 1)]), none, some (.ireturn, 1, 0, 0, 0, 0, []), 
  some (.iconst 0, 1, 0, 0, 0, 0, []), some (.istore_n 2, 1, 0, 0, 0, 0, []), some (.iload_n 2, 1, 0, 0, 0, 0, []), some (.iload_n 1, 1, 0, 0, 0, 0, []), some (.if_icmp .ge 20, 3, 55, 0, 0, 0, []), none, none, 
  some (.aload_n 0, 1, 0, 0, 0, 0, []), some (.getfield 34, 3, 10, 4, 4, 0, [(0, 74)]), none, none, some (.aload_n 0, 1, 0, 0, 0, 0, []), some (.getfield 12, 3, 10, 0, 0, 0, [(0, 70)]), none, none, 
  some (.invokevirtual 266, 3, 0, 1, 0, 0, [(0, 148)]), none, none, some (.iinc 2 1, 3, 0, 0, 1, 0, []), none, none, some (.goto (-19), 3, 33, 0, 0, 0, []), none, none, some (.aload_n 0, 1, 0, 0, 0, 0, []), 
  some (.getfield 12, 3, 10, 0, 0, 0, [(0, 70)]), none, none, some (.getfield 143, 3, 7, 5, 5, 0, [(0, 28)]), none, none, some (.ireturn, 1, 0, 0, 0, 0, [])]
set_option maxRecDepth 100000 in
def cd143 : Cd := [some (.iload_n 1, 1, 0, 0, 0, 0, []), some (.iconst 0, 1, 0, 0, 0, 0, []), some (.ldc_w 269, 3, 0, 0, 65535, 0, [(0, 16)]), none, none, some (.invokestatic 87, 3, 156, 3, 0, 0, [(0, 1)]), none, none, 
  some (.ifCond .ne 6, 3, 14, 0, 0, 0, []), none, none, some (.ldc 91, 2, 0, 0, -1000000001, 0, [(0, 0)]), none, some (.ireturn, 1, 0, 0, 0, 0, []), some (.aload_n 0, 1, 0, 0, 0, 0, []), 
  some (.getfield 12, 3, 10, 0, 0, 0, [(0, 70)]), none, none, some (.getfield 270, 3, 7, 6, 6, 0, [(0, 30)]), none, none, some (.istore_n 2, 1, 0, 0, 0, 0, []), some (.aload_n 0, 1, 0, 0, 0, 0, []), 
  some (.getfield 12, 3, 10, 0, 0, 0, [(0, 70)]), none, none, some (.iload_n 1, 1, 0, 0, 0, 0, []), some (.putfield 270, 3, 7, 6, 6, 0, [(0, 30)]), none, none, some (.iload_n 2, 1, 0, 0, 0, 0, []), 
  some (.ireturn, 1, 0, 0, 0, 0, [])]
set_option maxRecDepth 100000 in
def cd144 : Cd := [some (.iload_n 1, 1, 0, 0, 0, 0, []), some (.iconst 1, 1, 0, 0, 1, 0, []), some (.bipush 10, 2, 0, 0, 10, 0, []), none, some (.invokestatic 87, 3, 156, 3, 0, 0, [(0, 1)]), none, none, 
  some (.ifCond .ne 6, 3, 13, 0, 0, 0, []), none, none, some (.ldc 91, 2, 0, 0, -1000000001, 0, [(0, 0)]), none, some (.ireturn, 1, 0, 0, 0, 0, []), some (.aload_n 0, 1, 0, 0, 0, 0, []), 
  some (.getfield 12, 3, 10, 0, 0, 0, [(0, 70)]), none, none, some (.invokevirtual 273, 3, 63, 0, 0, 0, [(0, 166)]), none, none, some (.istore_n 2, 1, 0, 0, 0, 0, []), some (.iload_n 2, 1, 0, 0, 0, 0, []), 
  some (.istore_n 3, 1, 0, 0, 0, 0, []), some (.iconst 0, 1, 0, 0, 0, 0, []), some (.istore 4, 2, 0, 0, 0, 0, []), none, some (.iload 4, 2, 0, 0, 0, 0, []), none, some (.iload_n 1, 1, 0, 0, 0, 0, []), 
  some (.if_icmp .ge 28, 3, 57, 0, 0, 0, []), none, none, some (.iload_n 3, 1, 0, 0, 0, 0, []), some (.ifCond .eq 24, 3, 57, 0, 0, 0, []), none, none, some (.iload_n 3, 1, 0, 0, 0, 0, []), 
  some (.iconst 1, 1, 0, 0, 1, 0, []), some (.aload_n 0, 1, 0, 0, 0, 0, []), some (.getfield 12, 3, 10, 0, 0, 0, [(0, 70)]), none, none, some (.iload_n 3, 1, 0, 0, 0, 0, []), 
  some (.invokevirtual 276, 3, 88, 1, 0, 0, [(0, 167)]), none, none, some (.ishl, 1, 0, 0, 0, 0, []), some (.iconst (-1), 1, 0, 0, -1, 0, []), some (.ixor, 1, 0, 0, 0, 0, []), some (.iand, 1, 0, 0, 0, 0, []), 
  some (.istore_n 3, 1, 0, 0, 0, 0, []), some (.iinc 4 1, 3, 0, 0, 1, 0, []), none, none, some (.goto (-28), 3, 26, 0, 0, 0, []), none, none, some (.iload_n 2, 1, 0, 0, 0, 0, []), some (.iload_n 3, 1, 0, 0, 0, 0, []), 
  some (.iconst (-1), 1, 0, 0, -1, 0, []), some (.ixor, 1, 0, 0, 0, 0, []), some (.iand, 1, 0, 0, 0, 0, []), some (.ireturn, 1, 0, 0, 0, 0, [])]
set_option maxRecDepth 100000 in
def cd145 : Cd := [some (.aload_n 0, 1, 0, 0, 0, 0, []), some (.getfield 71, 3, 10, 9, 9, 0, [(0, 79)]), none, none, some (.iload_n 1, 1, 0, 0, 0, 0, []), some (.iload_n 2, 1, 0, 0, 0, 0, []), some (.iload_n 3, 1, 0, 0, 0, 0, []), 
  some (.invokevirtual 279, 3, 53, 3, 0, 0, [(0, 169)]), none, none, some (.ireturn, 1, 0, 0, 0, 0, [])]
set_option maxRecDepth 100000 in
def cd146 : Cd := [some (.aload_n 0, 1, 0, 0, 0, 0, []), some (.getfield 71, 3, 10, 9, 9, 0, [(0, 79)]), none, none, some (.iload_n 1, 1, 0, 0, 0, 0, []), some (.iload_n 2, 1, 0, 0, 0, 0, []), some (.iconst 0, 1, 0, 0, 0, 0, []), 
  some (.iload_n 3, 1, 0, 0, 0, 0, []), some (.invokevirtual 282, 3, 54, 4, 0, 0, [(0, 172)]), none, none, some (.ireturn, 1, 0, 0, 0, 0, [])]
set_option maxRecDepth 100000 in
def cd147 : Cd := [some (.aload_n 0, 1, 0, 0, 0, 0, []), some (.getfield 71, 3, 10, 9, 9, 0, [(0, 79)]), none, none, some (.iload_n 1, 1, 0, 0, 0, 0, []), some (.iload_n 2, 1, 0, 0, 0, 0, []), some (.sipush 1000, 3, 0, 0, 1000, 0, []), 
  none, none, some (.iload_n 3, 1, 0, 0, 0, 0, []), some (.invokevirtual 282, 3, 54, 4, 0, 0, [(0, 172)]), none, none, some (.ireturn, 1, 0, 0, 0, 0, [])]
set_option maxRecDepth 100000 in
def cd148 : Cd := [some (.aload_n 0, 1, 0, 0, 0, 0, []), some (.getfield 71, 3, 10, 9, 9, 0, [(0, 79)]), none, none, some (.iload_n 1, 1, 0, 0, 0, 0, []), some (.iload_n 2, 1, 0, 0, 0, 0, []), some (.iload_n 3, 1, 0, 0, 0, 0, []), 
  some (.iload 4, 2, 0, 0, 0, 0, []), none, some (.iload 5, 2, 0, 0, 0, 0, []), none, some (.invokevirtual 286, 3, 55, 5, 0, 0, [(0, 177)]), none, none, some (.ireturn, 1, 0, 0, 0, 0, [])]
set_option maxRecDepth 100000 in
def cd149 : Cd := [some (.aload_n 0, 1, 0, 0, 0, 0, []), some (.getfield 71, 3, 10, 9, 9, 0, [(0, 79)]), none, none, some (.iload_n 1, 1, 0, 0, 0, 0, []), some (.invokevirtual 290, 3, 56, 1, 0, 0, [(0, 180)]), none, none, 
  some (.ireturn, 1, 0, 0, 0, 0, [])]
set_option maxRecDepth 100000 in
def cd150 : Cd := [some (.aload_n 0, 1, 0, 0, 0, 0, []), some (.getfield 79, 3, 10, 11, 11, 0, [(0, 81)]), none, none, some (.aload_n 0, 1, 0, 0, 0, 0, []), some (.getfield 75, 3, 10, 10, 10, 0, [(0, 80)]), none, none, 
  some (.arraylength, 1, 0, 0, 0, 0, []), some (.if_icmp .lt 6, 3, 15, 0, 0, 0, []), none, none, some (.ldc 102, 2, 0, 0, -1000000003, 0, [(0, 1)]), none, some (.ireturn, 1, 0, 0, 0, 0, []), 
  some (.aload_n 0, 1, 0, 0, 0, 0, []), some (.getfield 75, 3, 10, 10, 10, 0, [(0, 80)]), none, none, some (.aload_n 0, 1, 0, 0, 0, 0, []), some (.getfield 79, 3, 10, 11, 11, 0, [(0, 81)]), none, none, 
  some (.iload_n 1, 1, 0, 0, 0, 0, []), some (.iastore, 1, 0, 0, 0, 0, []), some (.aload_n 0, 1, 0, 0, 0, 0, []), some (.dup, 1, 0, 0, 0, 0, []), some (.getfield 79, 3, 10, 11, 11, 0, [(0, 81)]), none, none, 
  some (.iconst 1, 1, 0, 0, 1, 0, []), some (.iadd, 1, 0, 0, 0, 0, []), some (.putfield 79, 3, 10, 11, 11, 0, [(0, 81)]), none, none, some (.aload_n 0, 1, 0, 0, 0, 0, []), some (.getfield 79, 3, 10, 11, 11, 0, [(0, 81)]), 
  none, none, some (.ireturn, 1, 0, 0, 0, 0, [])]
set_option maxRecDepth 100000 in
def cd151 : Cd := [some (.aload_n 0, 1, 0, 0, 0, 0, []), some (.getfield 79, 3, 10, 11, 11, 0, [(0, 81)]), none, none, some (.istore_n 2, 1, 0, 0, 0, 0, []), some (.aload_n 0, 1, 0, 0, 0, 0, []), some (.iconst 0, 1, 0, 0, 0, 0, []), 
  some (.putfield 79, 3, 10, 11, 11, 0, [(0, 81)]), none, none, some (.iload_n 1, 1, 0, 0, 0, 0, []), some (.iconst 1, 1, 0, 0, 1, 0, []), some (.bipush 30, 2, 0, 0, 30, 0, []), none, 
  some (.invokestatic 87, 3, 156, 3, 0, 0, [(0, 1)]), none, none, some (.ifCond .ne 6, 3, 23, 0, 0, 0, []), none, none, some (.ldc 91, 2, 0, 0, -1000000001, 0, [(0, 0)]), none, some (.ireturn, 1, 0, 0, 0, 0, []), 
  some (.aload_n 0, 1, 0, 0, 0, 0, []), some (.getfield 83, 3, 10, 12, 12, 0, [(0, 82)]), none, none, some (.ifCond .ne 6, 3, 33, 0, 0, 0, []), none, none, some (.ldc 159, 2, 0, 0, -1000000002, 0, [(0, 8)]), none, 
  some (.ireturn, 1, 0, 0, 0, 0, []), some (.aload_n 0, 1, 0, 0, 0, 0, []), some (.getfield 19, 3, 10, 2, 2, 0, [(0, 72)]), none, none, some (.aload_n 0, 1, 0, 0, 0, 0, []), some (.getfield 16, 3, 10, 1, 1, 0, [(0, 71)]), 
  none, none, some (.invokevirtual 293, 3, 61, 1, 0, 0, [(0, 183)]), none, none, some (.iconst 0, 1, 0, 0, 0, 0, []), some (.istore_n 3, 1, 0, 0, 0, 0, []), some (.iload_n 3, 1, 0, 0, 0, 0, []), 
  some (.iload_n 1, 1, 0, 0, 0, 0, []), some (.if_icmp .ge 70, 3, 118, 0, 0, 0, []), none, none, some (.aload_n 0, 1, 0, 0, 0, 0, []), some (.getfield 34, 3, 10, 4, 4, 0, [(0, 74)]), none, none, 
  some (.aload_n 0, 1, 0, 0, 0, 0, []), some (.getfield 19, 3, 10, 2, 2, 0, [(0, 72)]), none, none, some (.invokevirtual 266, 3, 0, 1, 0, 0, [(0, 148)]), none, none, some (.aload_n 0, 1, 0, 0, 0, 0, []), 
  some (.iconst 2, 1, 0, 0, 2, 0, []), some (.iload_n 3, 1, 0, 0, 0, 0, []), some (.imul, 1, 0, 0, 0, 0, []), some (.iload_n 2, 1, 0, 0, 0, 0, []), some (.aload_n 0, 1, 0, 0, 0, 0, []), 
  some (.getfield 19, 3, 10, 2, 2, 0, [(0, 72)]), none, none, some (.invokevirtual 296, 3, 89, 0, 0, 0, [(0, 185)]), none, none, some (.invokevirtual 299, 3, 152, 3, 0, 0, [(0, 186)]), none, none, 
  some (.ifCond .ne 9, 3, 86, 0, 0, 0, []), none, none, some (.iconst 1, 1, 0, 0, 1, 0, []), some (.iconst 2, 1, 0, 0, 2, 0, []), some (.iload_n 3, 1, 0, 0, 0, 0, []), some (.imul, 1, 0, 0, 0, 0, []), 
  some (.iadd, 1, 0, 0, 0, 0, []), some (.ireturn, 1, 0, 0, 0, 0, []), some (.aload_n 0, 1, 0, 0, 0, 0, []), some (.iconst 2, 1, 0, 0, 2, 0, []), some (.iload_n 3, 1, 0, 0, 0, 0, []), some (.imul, 1, 0, 0, 0, 0, []), 
  some (.iconst 1, 1, 0, 0, 1, 0, []), some (.iadd, 1, 0, 0, 0, 0, []), some (.iload_n 2, 1, 0, 0, 0, 0, []), some (.aload_n 0, 1, 0, 0, 0, 0, []), some (.getfield 19, 3, 10, 2, 2, 0, [(0, 72)]), none, none, 
  some (.invokevirtual 302, 3, 90, 0, 0, 0, [(0, 187)]), none, none, some (.invokevirtual 299, 3, 152, 3, 0, 0, [(0, 186)]), none, none, some (.ifCond .ne 9, 3, 112, 0, 0, 0, []), none, none, 
  some (.iconst 2, 1, 0, 0, 2, 0, []), some (.iconst 2, 1, 0, 0, 2, 0, []), some (.iload_n 3, 1, 0, 0, 0, 0, []), some (.imul, 1, 0, 0, 0, 0, []), some (.iadd, 1, 0, 0, 0, 0, []), some (.ireturn, 1, 0, 0, 0, 0, []), 
  some (.iinc 3 1, 3, 0, 0, 1, 0, []), none, none, some (.goto (-69), 3, 46, 0, 0, 0, []), none, none, some (.iload_n 2, 1, 0, 0, 0, 0, []), some (.iconst 2, 1, 0, 0, 2, 0, []), some (.iload_n 1, 1, 0, 0, 0, 0, []), 
  some (.imul, 1, 0, 0, 0, 0, []), some (.if_icmp .le 11, 3, 133, 0, 0, 0, []), none, none, some (.iconst 1, 1, 0, 0, 1, 0, []), some (.iconst 2, 1, 0, 0, 2, 0, []), some (.iload_n 1, 1, 0, 0, 0, 0, []), 
  some (.imul, 1, 0, 0, 0, 0, []), some (.iadd, 1, 0, 0, 0, 0, []), some (.goto 4, 3, 134, 0, 0, 0, []), none, none, some (.iconst 0, 1, 0, 0, 0, 0, []), some (.ireturn, 1, 0, 0, 0, 0, [])]
set_option maxRecDepth 100000 in
def cd152 : Cd := [some (.iload_n 1, 1, 0, 0, 0, 0, []), some (.ifCond .lt 31, 3, 32, 0, 0, 0, []), none, none, some (.iload_n 1, 1, 0, 0, 0, 0, []), some (.iload_n 2, 1, 0, 0, 0, 0, []), some (.if_icmp .ge 26, 3, 32, 0, 0, 0, []), none, 
  none, some (.iload_n 1, 1, 0, 0, 0, 0, []), some (.aload_n 0, 1, 0, 0, 0, 0, []), some (.getfield 75, 3, 10, 10, 10, 0, [(0, 80)]), none, none, some (.arraylength, 1, 0, 0, 0, 0, []), 
  some (.if_icmp .ge 17, 3, 32, 0, 0, 0, []), none, none, some (.aload_n 0, 1, 0, 0, 0, 0, []), some (.getfield 75, 3, 10, 10, 10, 0, [(0, 80)]), none, none, some (.iload_n 1, 1, 0, 0, 0, 0, []), 
  some (.iaload, 1, 0, 0, 0, 0, []), some (.iload_n 3, 1, 0, 0, 0, 0, []), some (.if_icmp .ne 7, 3, 32, 0, 0, 0, []), none, none, some (.iconst 1, 1, 0, 0, 1, 0, []), some (.goto 4, 3, 33, 0, 0, 0, []), none, none, 
  some (.iconst 0, 1, 0, 0, 0, 0, []), some (.ireturn, 1, 0, 0, 0, 0, [])]
set_option maxRecDepth 100000 in
def cd153 : Cd := [some (.aload_n 0, 1, 0, 0, 0, 0, []), some (.getfield 16, 3, 10, 1, 1, 0, [(0, 71)]), none, none, some (.aload_n 0, 1, 0, 0, 0, 0, []), some (.getfield 12, 3, 10, 0, 0, 0, [(0, 70)]), none, none, 
  some (.invokevirtual 293, 3, 61, 1, 0, 0, [(0, 183)]), none, none, some (.aload_n 0, 1, 0, 0, 0, 0, []), some (.iconst 1, 1, 0, 0, 1, 0, []), some (.putfield 83, 3, 10, 12, 12, 0, [(0, 82)]), none, none, 
  some (.aload_n 0, 1, 0, 0, 0, 0, []), some (.getfield 12, 3, 10, 0, 0, 0, [(0, 70)]), none, none, some (.getfield 143, 3, 7, 5, 5, 0, [(0, 28)]), none, none, some (.ireturn, 1, 0, 0, 0, 0, [])]
set_option maxRecDepth 100000 in
def cd154 : Cd := [some (.aload_n 0, 1, 0, 0, 0, 0, []), some (.getfield 83, 3, 10, 12, 12, 0, [(0, 82)]), none, none, some (.ifCond .ne 6, 3, 10, 0, 0, 0, []), none, none, some (.ldc 159, 2, 0, 0, -1000000002, 0, [(0, 8)]), none, 
  some (.ireturn, 1, 0, 0, 0, 0, []), some (.aload_n 0, 1, 0, 0, 0, 0, []), some (.getfield 12, 3, 10, 0, 0, 0, [(0, 70)]), none, none, some (.aload_n 0, 1, 0, 0, 0, 0, []), some (.getfield 16, 3, 10, 1, 1, 0, [(0, 71)]), 
  none, none, some (.invokevirtual 293, 3, 61, 1, 0, 0, [(0, 183)]), none, none, some (.aload_n 0, 1, 0, 0, 0, 0, []), some (.getfield 12, 3, 10, 0, 0, 0, [(0, 70)]), none, none, 
  some (.getfield 143, 3, 7, 5, 5, 0, [(0, 28)]), none, none, some (.ireturn, 1, 0, 0, 0, 0, [])]
set_option maxRecDepth 100000 in
def cd155 : Cd := [some (.iload_n 1, 1, 0, 0, 0, 0, []), 
  some (.tableswitch 215 0 13 #[71, 82, 93, 115, 123, 134, 142, 153, 164, 169, 177, 185, 193, 204], 71, 216, 0, 0, 0, [(0, 72), (1, 83), (2, 94), (3, 116), (4, 124), (5, 135), (6, 143), (7, 154), (8, 165), (9, 170), (10, 178), (11, 186), (12, 194), (13, 205)]), 
  none, none, none, none, none, none, none, none, none, none, none, none, none, none, none, none, none, none, none, none, none, none, none, none, none, none, none, none, none, none, none, none, none, none, none, none, none, 
  none, none, none, none, none, none, none, none, none, none, none, none, none, none, none, none, none, none, none, none, none, none, none, none, none, none, none, none, none, none, none, none, none, 
  some (.aload_n 0, 1, 0, 0, 0, 0, []), some (.getfield 12, 3, 10, 0, 0, 0, [(0, 70)]), none, none, some (.getfield 92, 3, 7, 0, 0, 0, [(0, 7)]), none, none, some (.invokevirtual 164, 3, 91, 0, 0, 0, [(0, 38)]), none, none, 
  some (.ireturn, 1, 0, 0, 0, 0, []), some (.aload_n 0, 1, 0, 0, 0, 0, []), some (.getfield 12, 3, 10, 0, 0, 0, [(0, 70)]), none, none, some (.getfield 136, 3, 7, 1, 1, 0, [(0, 14)]), none, none, 
  some (.invokevirtual 164, 3, 91, 0, 0, 0, [(0, 38)]), none, none, some (.ireturn, 1, 0, 0, 0, 0, []), some (.aload_n 0, 1, 0, 0, 0, 0, []), some (.getfield 12, 3, 10, 0, 0, 0, [(0, 70)]), none, none, 
  some (.getfield 136, 3, 7, 1, 1, 0, [(0, 14)]), none, none, some (.invokevirtual 164, 3, 91, 0, 0, 0, [(0, 38)]), none, none, some (.aload_n 0, 1, 0, 0, 0, 0, []), some (.getfield 12, 3, 10, 0, 0, 0, [(0, 70)]), none, 
  none, some (.invokevirtual 273, 3, 63, 0, 0, 0, [(0, 166)]), none, none, some (.invokestatic 123, 3, 265, 1, 0, 0, [(0, 15)]), none, none, some (.isub, 1, 0, 0, 0, 0, []), some (.ireturn, 1, 0, 0, 0, 0, []), 
  some (.aload_n 0, 1, 0, 0, 0, 0, []), some (.getfield 12, 3, 10, 0, 0, 0, [(0, 70)]), none, none, some (.invokevirtual 305, 3, 73, 0, 0, 0, [(0, 191)]), none, none, some (.ireturn, 1, 0, 0, 0, 0, []), 
  some (.aload_n 0, 1, 0, 0, 0, 0, []), some (.getfield 12, 3, 10, 0, 0, 0, [(0, 70)]), none, none, some (.getfield 189, 3, 7, 2, 2, 0, [(0, 18)]), none, none, some (.invokevirtual 164, 3, 91, 0, 0, 0, [(0, 38)]), none, 
  none, some (.ireturn, 1, 0, 0, 0, 0, []), some (.aload_n 0, 1, 0, 0, 0, 0, []), some (.getfield 12, 3, 10, 0, 0, 0, [(0, 70)]), none, none, some (.invokevirtual 308, 3, 80, 0, 0, 0, [(0, 192)]), none, none, 
  some (.ireturn, 1, 0, 0, 0, 0, []), some (.aload_n 0, 1, 0, 0, 0, 0, []), some (.getfield 12, 3, 10, 0, 0, 0, [(0, 70)]), none, none, some (.getfield 228, 3, 7, 3, 3, 0, [(0, 21)]), none, none, 
  some (.invokevirtual 164, 3, 91, 0, 0, 0, [(0, 38)]), none, none, some (.ireturn, 1, 0, 0, 0, 0, []), some (.aload_n 0, 1, 0, 0, 0, 0, []), some (.getfield 12, 3, 10, 0, 0, 0, [(0, 70)]), none, none, 
  some (.getfield 260, 3, 7, 4, 4, 0, [(0, 23)]), none, none, some (.invokevirtual 164, 3, 91, 0, 0, 0, [(0, 38)]), none, none, some (.ireturn, 1, 0, 0, 0, 0, []), some (.aload_n 0, 1, 0, 0, 0, 0, []), 
  some (.getfield 79, 3, 10, 11, 11, 0, [(0, 81)]), none, none, some (.ireturn, 1, 0, 0, 0, 0, []), some (.aload_n 0, 1, 0, 0, 0, 0, []), some (.getfield 55, 3, 10, 7, 7, 0, [(0, 77)]), none, none, 
  some (.invokevirtual 219, 3, 100, 0, 0, 0, [(0, 85)]), none, none, some (.ireturn, 1, 0, 0, 0, 0, []), some (.aload_n 0, 1, 0, 0, 0, 0, []), some (.getfield 12, 3, 10, 0, 0, 0, [(0, 70)]), none, none, 
  some (.getfield 143, 3, 7, 5, 5, 0, [(0, 28)]), none, none, some (.ireturn, 1, 0, 0, 0, 0, []), some (.aload_n 0, 1, 0, 0, 0, 0, []), some (.getfield 12, 3, 10, 0, 0, 0, [(0, 70)]), none, none, 
  some (.getfield 270, 3, 7, 6, 6, 0, [(0, 30)]), none, none, some (.ireturn, 1, 0, 0, 0, 0, []), some (.aload_n 0, 1, 0, 0, 0, 0, []), some (.getfield 12, 3, 10, 0, 0, 0, [(0, 70)]), none, none, 
  some (.ldc 128, 2, 0, 0, -1000000005, 0, [(0, 6)]), none, some (.iconst 1, 1, 0, 0, 1, 0, []), some (.invokevirtual 129, 3, 76, 2, 0, 0, [(0, 16)]), none, none, some (.ireturn, 1, 0, 0, 0, 0, []), 
  some (.aload_n 0, 1, 0, 0, 0, 0, []), some (.getfield 12, 3, 10, 0, 0, 0, [(0, 70)]), none, none, some (.ldc 128, 2, 0, 0, -1000000005, 0, [(0, 6)]), none, some (.iconst 2, 1, 0, 0, 2, 0, []), 
  some (.invokevirtual 129, 3, 76, 2, 0, 0, [(0, 16)]), none, none, some (.ireturn, 1, 0, 0, 0, 0, []), some (.ldc 91, 2, 0, 0, -1000000001, 0, [(0, 0)]), none, some (.ireturn, 1, 0, 0, 0, 0, [])]
set_option maxRecDepth 100000 in
def cd156 : Cd := [some (.iload_n 0, 1, 0, 0, 0, 0, []), some (.iload_n 1, 1, 0, 0, 0, 0, []), some (.if_icmp .lt 12, 3, 14, 0, 0, 0, []), none, none, some (.iload_n 0, 1, 0, 0, 0, 0, []), some (.iload_n 2, 1, 0, 0, 0, 0, []), 
  some (.if_icmp .gt 7, 3, 14, 0, 0, 0, []), none, none, some (.iconst 1, 1, 0, 0, 1, 0, []), some (.goto 4, 3, 15, 0, 0, 0, []), none, none, some (.iconst 0, 1, 0, 0, 0, 0, []), some (.ireturn, 1, 0, 0, 0, 0, [])]
set_option maxRecDepth 100000 in
def cd157 : Cd := [some (.iload_n 0, 1, 0, 0, 0, 0, []), some (.ifCond .lt 13, 3, 14, 0, 0, 0, []), none, none, some (.iload_n 0, 1, 0, 0, 0, 0, []), some (.bipush 6, 2, 0, 0, 6, 0, []), none, some (.if_icmp .ge 7, 3, 14, 0, 0, 0, []), 
  none, none, some (.iconst 1, 1, 0, 0, 1, 0, []), some (.goto 4, 3, 15, 0, 0, 0, []), none, none, some (.iconst 0, 1, 0, 0, 0, 0, []), some (.ireturn, 1, 0, 0, 0, 0, [])]
set_option maxRecDepth 100000 in
def cd158 : Cd := [some (.iload_n 0, 1, 0, 0, 0, 0, []), some (.ifCond .lt 27, 3, 28, 0, 0, 0, []), none, none, some (.iload_n 0, 1, 0, 0, 0, 0, []), some (.getstatic 311, 3, 1201, 0, 0, 0, [(0, 0)]), none, none, 
  some (.arraylength, 1, 0, 0, 0, 0, []), some (.if_icmp .ge 19, 3, 28, 0, 0, 0, []), none, none, some (.iload_n 0, 1, 0, 0, 0, 0, []), some (.getstatic 314, 3, 1202, 0, 0, 0, [(0, 1)]), none, none, 
  some (.arraylength, 1, 0, 0, 0, 0, []), some (.if_icmp .ge 11, 3, 28, 0, 0, 0, []), none, none, some (.iload_n 0, 1, 0, 0, 0, 0, []), some (.getstatic 317, 3, 1203, 0, 0, 0, [(0, 2)]), none, none, 
  some (.arraylength, 1, 0, 0, 0, 0, []), some (.if_icmp .lt 5, 3, 30, 0, 0, 0, []), none, none, some (.iconst 0, 1, 0, 0, 0, 0, []), some (.ireturn, 1, 0, 0, 0, 0, []), some (.iload_n 1, 1, 0, 0, 0, 0, []), 
  some (.getstatic 311, 3, 1201, 0, 0, 0, [(0, 0)]), none, none, some (.iload_n 0, 1, 0, 0, 0, 0, []), some (.iaload, 1, 0, 0, 0, 0, []), some (.getstatic 314, 3, 1202, 0, 0, 0, [(0, 1)]), none, none, 
  some (.iload_n 0, 1, 0, 0, 0, 0, []), some (.iaload, 1, 0, 0, 0, 0, []), some (.invokestatic 87, 3, 156, 3, 0, 0, [(0, 1)]), none, none, some (.ifCond .eq 20, 3, 64, 0, 0, 0, []), none, none, 
  some (.iload_n 2, 1, 0, 0, 0, 0, []), some (.iconst 0, 1, 0, 0, 0, 0, []), some (.getstatic 317, 3, 1203, 0, 0, 0, [(0, 2)]), none, none, some (.iload_n 0, 1, 0, 0, 0, 0, []), some (.iaload, 1, 0, 0, 0, 0, []), 
  some (.invokestatic 87, 3, 156, 3, 0, 0, [(0, 1)]), none, none, some (.ifCond .eq 7, 3, 64, 0, 0, 0, []), none, none, some (.iconst 1, 1, 0, 0, 1, 0, []), some (.goto 4, 3, 65, 0, 0, 0, []), none, none, 
  some (.iconst 0, 1, 0, 0, 0, 0, []), some (.ireturn, 1, 0, 0, 0, 0, [])]
set_option maxRecDepth 100000 in
def cd159 : Cd := [some (.lload_n 0, 1, 0, 0, 0, 0, []), some (.lload_n 2, 1, 0, 0, 0, 0, []), some (.lcmp, 1, 0, 0, 0, 0, []), some (.ifCond .lt 14, 3, 17, 0, 0, 0, []), none, none, some (.lload_n 0, 1, 0, 0, 0, 0, []), 
  some (.lload 4, 2, 0, 0, 0, 0, []), none, some (.lcmp, 1, 0, 0, 0, 0, []), some (.ifCond .gt 7, 3, 17, 0, 0, 0, []), none, none, some (.iconst 1, 1, 0, 0, 1, 0, []), some (.goto 4, 3, 18, 0, 0, 0, []), none, none, 
  some (.iconst 0, 1, 0, 0, 0, 0, []), some (.ireturn, 1, 0, 0, 0, 0, [])]
set_option maxRecDepth 100000 in
def cd160 : Cd := [some (.iload_n 0, 1, 0, 0, 0, 0, []), some (.ifCond .ge 8, 3, 9, 0, 0, 0, []), none, none, some (.ldc 66, 2, 0, 0, -1000000005, 0, [(0, 26)]), none, some (.goto 4, 3, 10, 0, 0, 0, []), none, none, 
  some (.iload_n 0, 1, 0, 0, 0, 0, []), some (.ireturn, 1, 0, 0, 0, 0, [])]
set_option maxRecDepth 100000 in
def cd161 : Cd := [some (.iload_n 0, 1, 0, 0, 0, 0, []), some (.iload_n 1, 1, 0, 0, 0, 0, []), some (.if_icmp .ge 7, 3, 9, 0, 0, 0, []), none, none, some (.iload_n 0, 1, 0, 0, 0, 0, []), some (.goto 4, 3, 10, 0, 0, 0, []), none, none, 
  some (.iload_n 1, 1, 0, 0, 0, 0, []), some (.ireturn, 1, 0, 0, 0, 0, [])]
set_option maxRecDepth 100000 in
def cd162 : Cd := [some (.aload_n 0, 1, 0, 0, 0, 0, []), some (.getfield 7, 3, 11, 0, 0, 0, [(0, 83)]), none, none, some (.iload_n 1, 1, 0, 0, 0, 0, []), some (.iaload, 1, 0, 0, 0, 0, []), some (.istore_n 3, 1, 0, 0, 0, 0, []), 
  some (.aload_n 0, 1, 0, 0, 0, 0, []), some (.getfield 7, 3, 11, 0, 0, 0, [(0, 83)]), none, none, some (.iload_n 1, 1, 0, 0, 0, 0, []), some (.iload_n 2, 1, 0, 0, 0, 0, []), some (.iastore, 1, 0, 0, 0, 0, []), 
  some (.iload_n 3, 1, 0, 0, 0, 0, []), some (.ireturn, 1, 0, 0, 0, 0, [])]
set_option maxRecDepth 100000 in
def cd163 : Cd := [some (.bipush 10, 2, 0, 0, 10, 0, []), none, some (.bipush 10, 2, 0, 0, 10, 0, []), none, some (.iload_n 1, 1, 0, 0, 0, 0, []), some (.imul, 1, 0, 0, 0, 0, []), some (.iadd, 1, 0, 0, 0, 0, []), 
  some (.ireturn, 1, 0, 0, 0, 0, [])]
set_option maxRecDepth 100000 in
def cd164 : Cd := [some (.bipush 40, 2, 0, 0, 40, 0, []), none, some (.bipush 16, 2, 0, 0, 16, 0, []), none, some (.iload_n 1, 1, 0, 0, 0, 0, []), some (.imul, 1, 0, 0, 0, 0, []), some (.iadd, 1, 0, 0, 0, 0, []), 
  some (.ireturn, 1, 0, 0, 0, 0, [])]
set_option maxRecDepth 100000 in
def cd165 : Cd := [some (.sipush 300, 3, 0, 0, 300, 0, []), none, none, some (.bipush 9, 2, 0, 0, 9, 0, []), none, some (.iload_n 1, 1, 0, 0, 0, 0, []), some (.imul, 1, 0, 0, 0, 0, []), some (.iadd, 1, 0, 0, 0, 0, []), 
  some (.ireturn, 1, 0, 0, 0, 0, [])]
set_option maxRecDepth 100000 in
def cd166 : Cd := [some (.sipush 600, 3, 0, 0, 600, 0, []), none, none, some (.sipush 200, 3, 0, 0, 200, 0, []), none, none, some (.iload_n 1, 1, 0, 0, 0, 0, []), some (.imul, 1, 0, 0, 0, 0, []), some (.iadd, 1, 0, 0, 0, 0, []), 
  some (.ireturn, 1, 0, 0, 0, 0, [])]
set_option maxRecDepth 100000 in
def cd167 : Cd := [some (.sipush 3000, 3, 0, 0, 3000, 0, []), none, none, some (.iconst 4, 1, 0, 0, 4, 0, []), some (.iload_n 1, 1, 0, 0, 0, 0, []), some (.imul, 1, 0, 0, 0, 0, []), some (.iadd, 1, 0, 0, 0, 0, []), 
  some (.ireturn, 1, 0, 0, 0, 0, [])]
set_option maxRecDepth 100000 in
def cd168 : Cd := [some (.iload_n 1, 1, 0, 0, 0, 0, []), some (.i2l, 1, 0, 0, 0, 0, []), some (.lconst 0, 1, 0, 0, 0, 0, []), some (.aload_n 0, 1, 0, 0, 0, 0, []), some (.getfield 7, 3, 11, 0, 0, 0, [(0, 83)]), none, none, 
  some (.iconst 1, 1, 0, 0, 1, 0, []), some (.iaload, 1, 0, 0, 0, 0, []), some (.iconst 1, 1, 0, 0, 1, 0, []), some (.isub, 1, 0, 0, 0, 0, []), some (.i2l, 1, 0, 0, 0, 0, []), 
  some (.invokestatic 67, 3, 159, 3, 0, 0, [(0, 194)]), none, none, some (.ireturn, 1, 0, 0, 0, 0, [])]
set_option maxRecDepth 100000 in
def cd169 : Cd := [some (.iload_n 1, 1, 0, 0, 0, 0, []), some (.i2l, 1, 0, 0, 0, 0, []), some (.lconst 0, 1, 0, 0, 0, 0, []), some (.aload_n 0, 1, 0, 0, 0, 0, []), some (.getfield 7, 3, 11, 0, 0, 0, [(0, 83)]), none, none, 
  some (.iconst 2, 1, 0, 0, 2, 0, []), some (.iaload, 1, 0, 0, 0, 0, []), some (.iconst 1, 1, 0, 0, 1, 0, []), some (.isub, 1, 0, 0, 0, 0, []), some (.i2l, 1, 0, 0, 0, 0, []), 
  some (.invokestatic 67, 3, 159, 3, 0, 0, [(0, 194)]), none, none, some (.ireturn, 1, 0, 0, 0, 0, [])]
set_option maxRecDepth 100000 in
def cd170 : Cd := [some (.iload_n 1, 1, 0, 0, 0, 0, []), some (.i2l, 1, 0, 0, 0, 0, []), some (.lconst 0, 1, 0, 0, 0, 0, []), some (.aload_n 0, 1, 0, 0, 0, 0, []), some (.getfield 7, 3, 11, 0, 0, 0, [(0, 83)]), none, none, 
  some (.iconst 3, 1, 0, 0, 3, 0, []), some (.iaload, 1, 0, 0, 0, 0, []), some (.iconst 1, 1, 0, 0, 1, 0, []), some (.isub, 1, 0, 0, 0, 0, []), some (.i2l, 1, 0, 0, 0, 0, []), 
  some (.invokestatic 67, 3, 159, 3, 0, 0, [(0, 194)]), none, none, some (.ireturn, 1, 0, 0, 0, 0, [])]
set_option maxRecDepth 100000 in
def cd171 : Cd := [some (.iload_n 1, 1, 0, 0, 0, 0, []), some (.i2l, 1, 0, 0, 0, 0, []), some (.lconst 0, 1, 0, 0, 0, 0, []), some (.aload_n 0, 1, 0, 0, 0, 0, []), some (.getfield 7, 3, 11, 0, 0, 0, [(0, 83)]), none, none, 
  some (.iconst 4, 1, 0, 0, 4, 0, []), some (.iaload, 1, 0, 0, 0, 0, []), some (.iconst 1, 1, 0, 0, 1, 0, []), some (.isub, 1, 0, 0, 0, 0, []), some (.i2l, 1, 0, 0, 0, 0, []), 
  some (.invokestatic 67, 3, 159, 3, 0, 0, [(0, 194)]), none, none, some (.ireturn, 1, 0, 0, 0, 0, [])]
set_option maxRecDepth 100000 in
def cd172 : Cd := [some (.aload_n 0, 1, 0, 0, 0, 0, []), some (.getfield 7, 3, 11, 0, 0, 0, [(0, 83)]), none, none, some (.aload_n 0, 1, 0, 0, 0, 0, []), some (.iload_n 1, 1, 0, 0, 0, 0, []), 
  some (.invokevirtual 71, 3, 164, 1, 0, 0, [(0, 205)]), none, none, some (.bipush 11, 2, 0, 0, 11, 0, []), none, some (.iadd, 1, 0, 0, 0, 0, []), some (.iaload, 1, 0, 0, 0, 0, []), some (.iconst 1, 1, 0, 0, 1, 0, []), 
  some (.if_icmp .ne 7, 3, 21, 0, 0, 0, []), none, none, some (.iconst 1, 1, 0, 0, 1, 0, []), some (.goto 4, 3, 22, 0, 0, 0, []), none, none, some (.iconst 0, 1, 0, 0, 0, 0, []), some (.ireturn, 1, 0, 0, 0, 0, [])]
set_option maxRecDepth 100000 in
def cd173 : Cd := [some (.aload_n 0, 1, 0, 0, 0, 0, []), some (.getfield 7, 3, 11, 0, 0, 0, [(0, 83)]), none, none, some (.aload_n 0, 1, 0, 0, 0, 0, []), some (.iload_n 1, 1, 0, 0, 0, 0, []), 
  some (.invokevirtual 75, 3, 165, 1, 0, 0, [(0, 203)]), none, none, some (.iaload, 1, 0, 0, 0, 0, []), some (.i2l, 1, 0, 0, 0, 0, []), some (.lconst 1, 1, 0, 0, 0, 1, []), some (.ldc2_w 78, 3, 0, 0, 0, 3, [(0, 1)]), none, 
  none, some (.invokestatic 67, 3, 159, 3, 0, 0, [(0, 194)]), none, none, some (.ireturn, 1, 0, 0, 0, 0, [])]
set_option maxRecDepth 100000 in
def cd174 : Cd := [some (.aload_n 0, 1, 0, 0, 0, 0, []), some (.getfield 7, 3, 11, 0, 0, 0, [(0, 83)]), none, none, some (.aload_n 0, 1, 0, 0, 0, 0, []), some (.iload_n 1, 1, 0, 0, 0, 0, []), 
  some (.invokevirtual 71, 3, 164, 1, 0, 0, [(0, 205)]), none, none, some (.iload_n 2, 1, 0, 0, 0, 0, []), some (.iadd, 1, 0, 0, 0, 0, []), some (.ldc 80, 2, 0, 0, 99999, 0, [(0, 29)]), none, 
  some (.aload_n 0, 1, 0, 0, 0, 0, []), some (.getfield 7, 3, 11, 0, 0, 0, [(0, 83)]), none, none, some (.aload_n 0, 1, 0, 0, 0, 0, []), some (.iload_n 1, 1, 0, 0, 0, 0, []), 
  some (.invokevirtual 71, 3, 164, 1, 0, 0, [(0, 205)]), none, none, some (.iload_n 2, 1, 0, 0, 0, 0, []), some (.iadd, 1, 0, 0, 0, 0, []), some (.iaload, 1, 0, 0, 0, 0, []), some (.iload_n 3, 1, 0, 0, 0, 0, []), 
  some (.iadd, 1, 0, 0, 0, 0, []), some (.invokestatic 81, 3, 161, 2, 0, 0, [(0, 264)]), none, none, some (.iastore, 1, 0, 0, 0, 0, []), some (.return_, 1, 0, 0, 0, 0, [])]
set_option maxRecDepth 100000 in
def cd175 : Cd := [some (.iload_n 1, 1, 0, 0, 0, 0, []), some (.i2l, 1, 0, 0, 0, 0, []), some (.lconst 1, 1, 0, 0, 0, 1, []), some (.ldc2_w 85, 3, 0, 0, 0, 5, [(0, 0)]), none, none, some (.invokestatic 67, 3, 159, 3, 0, 0, [(0, 194)]), 
  none, none, some (.ifCond .eq 27, 3, 36, 0, 0, 0, []), none, none, some (.iload_n 2, 1, 0, 0, 0, 0, []), some (.i2l, 1, 0, 0, 0, 0, []), some (.lconst 0, 1, 0, 0, 0, 0, []), some (.ldc2_w 78, 3, 0, 0, 0, 3, [(0, 1)]), 
  none, none, some (.invokestatic 67, 3, 159, 3, 0, 0, [(0, 194)]), none, none, some (.ifCond .eq 15, 3, 36, 0, 0, 0, []), none, none, some (.iload_n 3, 1, 0, 0, 0, 0, []), some (.i2l, 1, 0, 0, 0, 0, []), 
  some (.lconst 0, 1, 0, 0, 0, 0, []), some (.ldc2_w 78, 3, 0, 0, 0, 3, [(0, 1)]), none, none, some (.invokestatic 67, 3, 159, 3, 0, 0, [(0, 194)]), none, none, some (.ifCond .ne 6, 3, 39, 0, 0, 0, []), none, none, 
  some (.ldc 87, 2, 0, 0, -1000000001, 0, [(0, 24)]), none, some (.ireturn, 1, 0, 0, 0, 0, []), some (.aload_n 0, 1, 0, 0, 0, 0, []), some (.getfield 7, 3, 11, 0, 0, 0, [(0, 83)]), none, none, 
  some (.iconst 1, 1, 0, 0, 1, 0, []), some (.iaload, 1, 0, 0, 0, 0, []), some (.iconst 3, 1, 0, 0, 3, 0, []), some (.if_icmp .ne 6, 3, 52, 0, 0, 0, []), none, none, some (.ldc 88, 2, 0, 0, -1000000003, 0, [(0, 25)]), none, 
  some (.ireturn, 1, 0, 0, 0, 0, []), some (.aload_n 0, 1, 0, 0, 0, 0, []), some (.aload_n 0, 1, 0, 0, 0, 0, []), some (.getfield 7, 3, 11, 0, 0, 0, [(0, 83)]), none, none, some (.iconst 1, 1, 0, 0, 1, 0, []), 
  some (.iaload, 1, 0, 0, 0, 0, []), some (.invokevirtual 89, 3, 163, 1, 0, 0, [(0, 195)]), none, none, some (.istore 4, 2, 0, 0, 0, 0, []), none, some (.iconst 0, 1, 0, 0, 0, 0, []), some (.istore 5, 2, 0, 0, 0, 0, []), 
  none, some (.iload 5, 2, 0, 0, 0, 0, []), none, some (.bipush 10, 2, 0, 0, 10, 0, []), none, some (.if_icmp .ge 20, 3, 91, 0, 0, 0, []), none, none, some (.aload_n 0, 1, 0, 0, 0, 0, []), 
  some (.getfield 7, 3, 11, 0, 0, 0, [(0, 83)]), none, none, some (.iload 4, 2, 0, 0, 0, 0, []), none, some (.iload 5, 2, 0, 0, 0, 0, []), none, some (.iadd, 1, 0, 0, 0, 0, []), some (.iconst 0, 1, 0, 0, 0, 0, []), 
  some (.iastore, 1, 0, 0, 0, 0, []), some (.iinc 5 1, 3, 0, 0, 1, 0, []), none, none, some (.goto (-21), 3, 67, 0, 0, 0, []), none, none, some (.aload_n 0, 1, 0, 0, 0, 0, []), some (.getfield 7, 3, 11, 0, 0, 0, [(0, 83)]), 
  none, none, some (.iload 4, 2, 0, 0, 0, 0, []), none, some (.iconst 0, 1, 0, 0, 0, 0, []), some (.iadd, 1, 0, 0, 0, 0, []), some (.iload_n 1, 1, 0, 0, 0, 0, []), some (.iastore, 1, 0, 0, 0, 0, []), 
  some (.aload_n 0, 1, 0, 0, 0, 0, []), some (.getfield 7, 3, 11, 0, 0, 0, [(0, 83)]), none, none, some (.iload 4, 2, 0, 0, 0, 0, []), none, some (.iconst 1, 1, 0, 0, 1, 0, []), some (.iadd, 1, 0, 0, 0, 0, []), 
  some (.iload_n 2, 1, 0, 0, 0, 0, []), some (.iastore, 1, 0, 0, 0, 0, []), some (.aload_n 0, 1, 0, 0, 0, 0, []), some (.getfield 7, 3, 11, 0, 0, 0, [(0, 83)]), none, none, some (.iload 4, 2, 0, 0, 0, 0, []), none, 
  some (.iconst 2, 1, 0, 0, 2, 0, []), some (.iadd, 1, 0, 0, 0, 0, []), some (.iload_n 3, 1, 0, 0, 0, 0, []), some (.iastore, 1, 0, 0, 0, 0, []), some (.aload_n 0, 1, 0, 0, 0, 0, []), 
  some (.getfield 7, 3, 11, 0, 0, 0, [(0, 83)]), none, none, some (.iload 4, 2, 0, 0, 0, 0, []), none, some (.iconst 3, 1, 0, 0, 3, 0, []), some (.iadd, 1, 0, 0, 0, 0, []), some (.iconst 5, 1, 0, 0, 5, 0, []), 
  some (.iastore, 1, 0, 0, 0, 0, []), some (.aload_n 0, 1, 0, 0, 0, 0, []), some (.getfield 7, 3, 11, 0, 0, 0, [(0, 83)]), none, none, some (.iconst 1, 1, 0, 0, 1, 0, []), some (.dup2, 1, 0, 0, 0, 0, []), 
  some (.iaload, 1, 0, 0, 0, 0, []), some (.iconst 1, 1, 0, 0, 1, 0, []), some (.iadd, 1, 0, 0, 0, 0, []), some (.iastore, 1, 0, 0, 0, 0, []), some (.aload_n 0, 1, 0, 0, 0, 0, []), 
  some (.getfield 7, 3, 11, 0, 0, 0, [(0, 83)]), none, none, some (.iconst 1, 1, 0, 0, 1, 0, []), some (.iaload, 1, 0, 0, 0, 0, []), some (.iconst 1, 1, 0, 0, 1, 0, []), some (.isub, 1, 0, 0, 0, 0, []), 
  some (.ireturn, 1, 0, 0, 0, 0, [])]
set_option maxRecDepth 100000 in
def cd176 : Cd := [some (.aload_n 0, 1, 0, 0, 0, 0, []), some (.iload_n 1, 1, 0, 0, 0, 0, []), some (.invokevirtual 92, 3, 168, 1, 0, 0, [(0, 197)]), none, none, some (.ifCond .eq 30, 3, 35, 0, 0, 0, []), none, none, 
  some (.iload_n 2, 1, 0, 0, 0, 0, []), some (.i2l, 1, 0, 0, 0, 0, []), some (.lconst 0, 1, 0, 0, 0, 0, []), some (.ldc2_w 96, 3, 0, 0, 0, 99, [(0, 2)]), none, none, some (.invokestatic 67, 3, 159, 3, 0, 0, [(0, 194)]), 
  none, none, some (.ifCond .eq 18, 3, 35, 0, 0, 0, []), none, none, some (.aload_n 0, 1, 0, 0, 0, 0, []), some (.aload_n 0, 1, 0, 0, 0, 0, []), some (.iload_n 1, 1, 0, 0, 0, 0, []), 
  some (.invokevirtual 89, 3, 163, 1, 0, 0, [(0, 195)]), none, none, some (.iconst 3, 1, 0, 0, 3, 0, []), some (.iadd, 1, 0, 0, 0, 0, []), some (.iload_n 2, 1, 0, 0, 0, 0, []), 
  some (.invokevirtual 98, 3, 162, 2, 0, 0, [(0, 198)]), none, none, some (.goto 5, 3, 37, 0, 0, 0, []), none, none, some (.ldc 87, 2, 0, 0, -1000000001, 0, [(0, 24)]), none, some (.ireturn, 1, 0, 0, 0, 0, [])]
set_option maxRecDepth 100000 in
def cd177 : Cd := [some (.aload_n 0, 1, 0, 0, 0, 0, []), some (.iload_n 1, 1, 0, 0, 0, 0, []), some (.invokevirtual 92, 3, 168, 1, 0, 0, [(0, 197)]), none, none, some (.ifCond .eq 30, 3, 35, 0, 0, 0, []), none, none, 
  some (.iload_n 2, 1, 0, 0, 0, 0, []), some (.i2l, 1, 0, 0, 0, 0, []), some (.lconst 0, 1, 0, 0, 0, 0, []), some (.ldc2_w 96, 3, 0, 0, 0, 99, [(0, 2)]), none, none, some (.invokestatic 67, 3, 159, 3, 0, 0, [(0, 194)]), 
  none, none, some (.ifCond .eq 18, 3, 35, 0, 0, 0, []), none, none, some (.aload_n 0, 1, 0, 0, 0, 0, []), some (.aload_n 0, 1, 0, 0, 0, 0, []), some (.iload_n 1, 1, 0, 0, 0, 0, []), 
  some (.invokevirtual 89, 3, 163, 1, 0, 0, [(0, 195)]), none, none, some (.iconst 4, 1, 0, 0, 4, 0, []), some (.iadd, 1, 0, 0, 0, 0, []), some (.iload_n 2, 1, 0, 0, 0, 0, []), 
  some (.invokevirtual 98, 3, 162, 2, 0, 0, [(0, 198)]), none, none, some (.goto 5, 3, 37, 0, 0, 0, []), none, none, some (.ldc 87, 2, 0, 0, -1000000001, 0, [(0, 24)]), none, some (.ireturn, 1, 0, 0, 0, 0, [])]
set_option maxRecDepth 100000 in
def cd178 : Cd := [some (.iconst 0, 1, 0, 0, 0, 0, []), some (.istore_n 2, 1, 0, 0, 0, 0, []), some (.iconst 0, 1, 0, 0, 0, 0, []), some (.istore_n 3, 1, 0, 0, 0, 0, []), some (.iload_n 3, 1, 0, 0, 0, 0, []), 
  some (.aload_n 0, 1, 0, 0, 0, 0, []), some (.getfield 7, 3, 11, 0, 0, 0, [(0, 83)]), none, none, some (.iconst 2, 1, 0, 0, 2, 0, []), some (.iaload, 1, 0, 0, 0, 0, []), some (.if_icmp .ge 34, 3, 45, 0, 0, 0, []), none, 
  none, some (.iload_n 2, 1, 0, 0, 0, 0, []), some (.aload_n 0, 1, 0, 0, 0, 0, []), some (.getfield 7, 3, 11, 0, 0, 0, [(0, 83)]), none, none, some (.aload_n 0, 1, 0, 0, 0, 0, []), some (.iload_n 3, 1, 0, 0, 0, 0, []), 
  some (.invokevirtual 71, 3, 164, 1, 0, 0, [(0, 205)]), none, none, some (.bipush 8, 2, 0, 0, 8, 0, []), none, some (.iadd, 1, 0, 0, 0, 0, []), some (.iaload, 1, 0, 0, 0, 0, []), some (.iload_n 1, 1, 0, 0, 0, 0, []), 
  some (.if_icmp .ne 7, 3, 36, 0, 0, 0, []), none, none, some (.iconst 1, 1, 0, 0, 1, 0, []), some (.goto 4, 3, 37, 0, 0, 0, []), none, none, some (.iconst 0, 1, 0, 0, 0, 0, []), some (.iadd, 1, 0, 0, 0, 0, []), 
  some (.istore_n 2, 1, 0, 0, 0, 0, []), some (.iinc 3 1, 3, 0, 0, 1, 0, []), none, none, some (.goto (-38), 3, 4, 0, 0, 0, []), none, none, some (.iload_n 2, 1, 0, 0, 0, 0, []), some (.ireturn, 1, 0, 0, 0, 0, [])]
set_option maxRecDepth 100000 in
def cd179 : Cd := [some (.iconst 0, 1, 0, 0, 0, 0, []), some (.istore_n 3, 1, 0, 0, 0, 0, []), some (.iconst 0, 1, 0, 0, 0, 0, []), some (.istore 4, 2, 0, 0, 0, 0, []), none, some (.iload 4, 2, 0, 0, 0, 0, []), none, 
  some (.aload_n 0, 1, 0, 0, 0, 0, []), some (.getfield 7, 3, 11, 0, 0, 0, [(0, 83)]), none, none, some (.iconst 3, 1, 0, 0, 3, 0, []), some (.iaload, 1, 0, 0, 0, 0, []), some (.if_icmp .ge 64, 3, 77, 0, 0, 0, []), none, 
  none, some (.iload_n 3, 1, 0, 0, 0, 0, []), some (.aload_n 0, 1, 0, 0, 0, 0, []), some (.iload 4, 2, 0, 0, 0, 0, []), none, some (.invokevirtual 101, 3, 173, 1, 0, 0, [(0, 202)]), none, none, 
  some (.ifCond .eq 45, 3, 68, 0, 0, 0, []), none, none, some (.aload_n 0, 1, 0, 0, 0, 0, []), some (.getfield 7, 3, 11, 0, 0, 0, [(0, 83)]), none, none, some (.aload_n 0, 1, 0, 0, 0, 0, []), 
  some (.iload 4, 2, 0, 0, 0, 0, []), none, some (.invokevirtual 75, 3, 165, 1, 0, 0, [(0, 203)]), none, none, some (.iconst 1, 1, 0, 0, 1, 0, []), some (.iadd, 1, 0, 0, 0, 0, []), some (.iaload, 1, 0, 0, 0, 0, []), 
  some (.iload_n 1, 1, 0, 0, 0, 0, []), some (.if_icmp .ne 28, 3, 68, 0, 0, 0, []), none, none, some (.iload_n 2, 1, 0, 0, 0, 0, []), some (.ifCond .lt 20, 3, 64, 0, 0, 0, []), none, none, 
  some (.aload_n 0, 1, 0, 0, 0, 0, []), some (.getfield 7, 3, 11, 0, 0, 0, [(0, 83)]), none, none, some (.aload_n 0, 1, 0, 0, 0, 0, []), some (.iload 4, 2, 0, 0, 0, 0, []), none, 
  some (.invokevirtual 75, 3, 165, 1, 0, 0, [(0, 203)]), none, none, some (.iconst 4, 1, 0, 0, 4, 0, []), some (.iadd, 1, 0, 0, 0, 0, []), some (.iaload, 1, 0, 0, 0, 0, []), some (.iload_n 2, 1, 0, 0, 0, 0, []), 
  some (.if_icmp .ne 7, 3, 68, 0, 0, 0, []), none, none, some (.iconst 1, 1, 0, 0, 1, 0, []), some (.goto 4, 3, 69, 0, 0, 0, []), none, none, some (.iconst 0, 1, 0, 0, 0, 0, []), some (.iadd, 1, 0, 0, 0, 0, []), 
  some (.istore_n 3, 1, 0, 0, 0, 0, []), some (.iinc 4 1, 3, 0, 0, 1, 0, []), none, none, some (.goto (-69), 3, 5, 0, 0, 0, []), none, none, some (.iload_n 3, 1, 0, 0, 0, 0, []), some (.ireturn, 1, 0, 0, 0, 0, [])]
set_option maxRecDepth 100000 in
def cd180 : Cd := [some (.aload_n 0, 1, 0, 0, 0, 0, []), some (.iload_n 1, 1, 0, 0, 0, 0, []), some (.invokevirtual 92, 3, 168, 1, 0, 0, [(0, 197)]), none, none, some (.ifCond .eq 15, 3, 20, 0, 0, 0, []), none, none, 
  some (.iload_n 2, 1, 0, 0, 0, 0, []), some (.i2l, 1, 0, 0, 0, 0, []), some (.lconst 0, 1, 0, 0, 0, 0, []), some (.ldc2_w 104, 3, 0, 0, 0, 10, [(0, 3)]), none, none, some (.invokestatic 67, 3, 159, 3, 0, 0, [(0, 194)]), 
  none, none, some (.ifCond .ne 6, 3, 23, 0, 0, 0, []), none, none, some (.ldc 87, 2, 0, 0, -1000000001, 0, [(0, 24)]), none, some (.ireturn, 1, 0, 0, 0, 0, []), some (.iload_n 2, 1, 0, 0, 0, 0, []), 
  some (.bipush 8, 2, 0, 0, 8, 0, []), none, some (.if_icmp .lt 23, 3, 49, 0, 0, 0, []), none, none, some (.aload_n 0, 1, 0, 0, 0, 0, []), some (.iload_n 1, 1, 0, 0, 0, 0, []), some (.iload_n 2, 1, 0, 0, 0, 0, []), 
  some (.bipush 8, 2, 0, 0, 8, 0, []), none, some (.if_icmp .ne 7, 3, 41, 0, 0, 0, []), none, none, some (.iconst (-1), 1, 0, 0, -1, 0, []), some (.goto 7, 3, 45, 0, 0, 0, []), none, none, 
  some (.iload_n 2, 1, 0, 0, 0, 0, []), some (.bipush 8, 2, 0, 0, 8, 0, []), none, some (.isub, 1, 0, 0, 0, 0, []), some (.invokevirtual 106, 3, 179, 2, 0, 0, [(0, 201)]), none, none, some (.ireturn, 1, 0, 0, 0, 0, []), 
  some (.iload_n 2, 1, 0, 0, 0, 0, []), some (.iconst 5, 1, 0, 0, 5, 0, []), some (.if_icmp .ne 11, 3, 62, 0, 0, 0, []), none, none, some (.aload_n 0, 1, 0, 0, 0, 0, []), some (.iload_n 1, 1, 0, 0, 0, 0, []), 
  some (.invokevirtual 109, 3, 178, 1, 0, 0, [(0, 204)]), none, none, some (.goto 15, 3, 74, 0, 0, 0, []), none, none, some (.aload_n 0, 1, 0, 0, 0, 0, []), some (.getfield 7, 3, 11, 0, 0, 0, [(0, 83)]), none, none, 
  some (.aload_n 0, 1, 0, 0, 0, 0, []), some (.iload_n 1, 1, 0, 0, 0, 0, []), some (.invokevirtual 89, 3, 163, 1, 0, 0, [(0, 195)]), none, none, some (.iload_n 2, 1, 0, 0, 0, 0, []), some (.iadd, 1, 0, 0, 0, 0, []), 
  some (.iaload, 1, 0, 0, 0, 0, []), some (.ireturn, 1, 0, 0, 0, 0, [])]
set_option maxRecDepth 100000 in
def cd181 : Cd := [some (.iload_n 1, 1, 0, 0, 0, 0, []), some (.i2l, 1, 0, 0, 0, 0, []), some (.lconst 0, 1, 0, 0, 0, 0, []), some (.ldc2_w 78, 3, 0, 0, 0, 3, [(0, 1)]), none, none, some (.invokestatic 67, 3, 159, 3, 0, 0, [(0, 194)]), 
  none, none, some (.ifCond .eq 27, 3, 36, 0, 0, 0, []), none, none, some (.iload_n 2, 1, 0, 0, 0, 0, []), some (.i2l, 1, 0, 0, 0, 0, []), some (.lconst 0, 1, 0, 0, 0, 0, []), some (.ldc2_w 78, 3, 0, 0, 0, 3, [(0, 1)]), 
  none, none, some (.invokestatic 67, 3, 159, 3, 0, 0, [(0, 194)]), none, none, some (.ifCond .eq 15, 3, 36, 0, 0, 0, []), none, none, some (.iload_n 3, 1, 0, 0, 0, 0, []), some (.i2l, 1, 0, 0, 0, 0, []), 
  some (.lconst 1, 1, 0, 0, 0, 1, []), some (.ldc2_w 112, 3, 0, 0, 0, 999, [(0, 4)]), none, none, some (.invokestatic 67, 3, 159, 3, 0, 0, [(0, 194)]), none, none, some (.ifCond .ne 6, 3, 39, 0, 0, 0, []), none, none, 
  some (.ldc 87, 2, 0, 0, -1000000001, 0, [(0, 24)]), none, some (.ireturn, 1, 0, 0, 0, 0, []), some (.aload_n 0, 1, 0, 0, 0, 0, []), some (.getfield 7, 3, 11, 0, 0, 0, [(0, 83)]), none, none, 
  some (.iconst 2, 1, 0, 0, 2, 0, []), some (.iaload, 1, 0, 0, 0, 0, []), some (.bipush 10, 2, 0, 0, 10, 0, []), none, some (.if_icmp .ne 6, 3, 53, 0, 0, 0, []), none, none, 
  some (.ldc 88, 2, 0, 0, -1000000003, 0, [(0, 25)]), none, some (.ireturn, 1, 0, 0, 0, 0, []), some (.aload_n 0, 1, 0, 0, 0, 0, []), some (.aload_n 0, 1, 0, 0, 0, 0, []), some (.getfield 7, 3, 11, 0, 0, 0, [(0, 83)]), 
  none, none, some (.iconst 2, 1, 0, 0, 2, 0, []), some (.iaload, 1, 0, 0, 0, 0, []), some (.invokevirtual 71, 3, 164, 1, 0, 0, [(0, 205)]), none, none, some (.istore 4, 2, 0, 0, 0, 0, []), none, 
  some (.iconst 0, 1, 0, 0, 0, 0, []), some (.istore 5, 2, 0, 0, 0, 0, []), none, some (.iload 5, 2, 0, 0, 0, 0, []), none, some (.bipush 16, 2, 0, 0, 16, 0, []), none, some (.if_icmp .ge 20, 3, 92, 0, 0, 0, []), none, 
  none, some (.aload_n 0, 1, 0, 0, 0, 0, []), some (.getfield 7, 3, 11, 0, 0, 0, [(0, 83)]), none, none, some (.iload 4, 2, 0, 0, 0, 0, []), none, some (.iload 5, 2, 0, 0, 0, 0, []), none, some (.iadd, 1, 0, 0, 0, 0, []), 
  some (.iconst 0, 1, 0, 0, 0, 0, []), some (.iastore, 1, 0, 0, 0, 0, []), some (.iinc 5 1, 3, 0, 0, 1, 0, []), none, none, some (.goto (-21), 3, 68, 0, 0, 0, []), none, none, some (.aload_n 0, 1, 0, 0, 0, 0, []), 
  some (.getfield 7, 3, 11, 0, 0, 0, [(0, 83)]), none, none, some (.iload 4, 2, 0, 0, 0, 0, []), none, some (.iconst 0, 1, 0, 0, 0, 0, []), some (.iadd, 1, 0, 0, 0, 0, []), some (.iload_n 1, 1, 0, 0, 0, 0, []), 
  some (.iastore, 1, 0, 0, 0, 0, []), some (.aload_n 0, 1, 0, 0, 0, 0, []), some (.getfield 7, 3, 11, 0, 0, 0, [(0, 83)]), none, none, some (.iload 4, 2, 0, 0, 0, 0, []), none, some (.iconst 1, 1, 0, 0, 1, 0, []), 
  some (.iadd, 1, 0, 0, 0, 0, []), some (.iload_n 2, 1, 0, 0, 0, 0, []), some (.iastore, 1, 0, 0, 0, 0, []), some (.aload_n 0, 1, 0, 0, 0, 0, []), some (.getfield 7, 3, 11, 0, 0, 0, [(0, 83)]), none, none, 
  some (.iload 4, 2, 0, 0, 0, 0, []), none, some (.iconst 2, 1, 0, 0, 2, 0, []), some (.iadd, 1, 0, 0, 0, 0, []), some (.iload_n 3, 1, 0, 0, 0, 0, []), some (.iastore, 1, 0, 0, 0, 0, []), 
  some (.aload_n 0, 1, 0, 0, 0, 0, []), some (.getfield 7, 3, 11, 0, 0, 0, [(0, 83)]), none, none, some (.iload 4, 2, 0, 0, 0, 0, []), none, some (.bipush 8, 2, 0, 0, 8, 0, []), none, some (.iadd, 1, 0, 0, 0, 0, []), 
  some (.iconst (-1), 1, 0, 0, -1, 0, []), some (.iastore, 1, 0, 0, 0, 0, []), some (.aload_n 0, 1, 0, 0, 0, 0, []), some (.getfield 7, 3, 11, 0, 0, 0, [(0, 83)]), none, none, some (.iload 4, 2, 0, 0, 0, 0, []), none, 
  some (.bipush 9, 2, 0, 0, 9, 0, []), none, some (.iadd, 1, 0, 0, 0, 0, []), some (.iconst (-1), 1, 0, 0, -1, 0, []), some (.iastore, 1, 0, 0, 0, 0, []), some (.iconst 0, 1, 0, 0, 0, 0, []), 
  some (.istore 5, 2, 0, 0, 0, 0, []), none, some (.iload 5, 2, 0, 0, 0, 0, []), none, some (.bipush 10, 2, 0, 0, 10, 0, []), none, some (.if_icmp .ge 53, 3, 204, 0, 0, 0, []), none, none, 
  some (.aload_n 0, 1, 0, 0, 0, 0, []), some (.getfield 7, 3, 11, 0, 0, 0, [(0, 83)]), none, none, some (.sipush 200, 3, 0, 0, 200, 0, []), none, none, some (.bipush 10, 2, 0, 0, 10, 0, []), none, 
  some (.aload_n 0, 1, 0, 0, 0, 0, []), some (.getfield 7, 3, 11, 0, 0, 0, [(0, 83)]), none, none, some (.iconst 2, 1, 0, 0, 2, 0, []), some (.iaload, 1, 0, 0, 0, 0, []), some (.imul, 1, 0, 0, 0, 0, []), 
  some (.iadd, 1, 0, 0, 0, 0, []), some (.iload 5, 2, 0, 0, 0, 0, []), none, some (.iadd, 1, 0, 0, 0, 0, []), some (.iconst 0, 1, 0, 0, 0, 0, []), some (.iastore, 1, 0, 0, 0, 0, []), some (.aload_n 0, 1, 0, 0, 0, 0, []), 
  some (.getfield 7, 3, 11, 0, 0, 0, [(0, 83)]), none, none, some (.sipush 200, 3, 0, 0, 200, 0, []), none, none, some (.bipush 10, 2, 0, 0, 10, 0, []), none, some (.iload 5, 2, 0, 0, 0, 0, []), none, 
  some (.imul, 1, 0, 0, 0, 0, []), some (.iadd, 1, 0, 0, 0, 0, []), some (.aload_n 0, 1, 0, 0, 0, 0, []), some (.getfield 7, 3, 11, 0, 0, 0, [(0, 83)]), none, none, some (.iconst 2, 1, 0, 0, 2, 0, []), 
  some (.iaload, 1, 0, 0, 0, 0, []), some (.iadd, 1, 0, 0, 0, 0, []), some (.iconst 0, 1, 0, 0, 0, 0, []), some (.iastore, 1, 0, 0, 0, 0, []), some (.iinc 5 1, 3, 0, 0, 1, 0, []), none, none, 
  some (.goto (-54), 3, 147, 0, 0, 0, []), none, none, some (.aload_n 0, 1, 0, 0, 0, 0, []), some (.getfield 7, 3, 11, 0, 0, 0, [(0, 83)]), none, none, some (.iconst 2, 1, 0, 0, 2, 0, []), some (.dup2, 1, 0, 0, 0, 0, []), 
  some (.iaload, 1, 0, 0, 0, 0, []), some (.iconst 1, 1, 0, 0, 1, 0, []), some (.iadd, 1, 0, 0, 0, 0, []), some (.iastore, 1, 0, 0, 0, 0, []), some (.aload_n 0, 1, 0, 0, 0, 0, []), 
  some (.getfield 7, 3, 11, 0, 0, 0, [(0, 83)]), none, none, some (.iconst 2, 1, 0, 0, 2, 0, []), some (.iaload, 1, 0, 0, 0, 0, []), some (.iconst 1, 1, 0, 0, 1, 0, []), some (.isub, 1, 0, 0, 0, 0, []), 
  some (.ireturn, 1, 0, 0, 0, 0, [])]
set_option maxRecDepth 100000 in
def cd182 : Cd := [some (.aload_n 0, 1, 0, 0, 0, 0, []), some (.iload_n 1, 1, 0, 0, 0, 0, []), some (.invokevirtual 114, 3, 169, 1, 0, 0, [(0, 208)]), none, none, some (.ifCond .eq 15, 3, 20, 0, 0, 0, []), none, none, 
  some (.iload_n 2, 1, 0, 0, 0, 0, []), some (.i2l, 1, 0, 0, 0, 0, []), some (.lconst 0, 1, 0, 0, 0, 0, []), some (.ldc2_w 117, 3, 0, 0, 0, 11, [(0, 5)]), none, none, some (.invokestatic 67, 3, 159, 3, 0, 0, [(0, 194)]), 
  none, none, some (.ifCond .ne 6, 3, 23, 0, 0, 0, []), none, none, some (.ldc 87, 2, 0, 0, -1000000001, 0, [(0, 24)]), none, some (.ireturn, 1, 0, 0, 0, 0, []), some (.aload_n 0, 1, 0, 0, 0, 0, []), 
  some (.getfield 7, 3, 11, 0, 0, 0, [(0, 83)]), none, none, some (.aload_n 0, 1, 0, 0, 0, 0, []), some (.iload_n 1, 1, 0, 0, 0, 0, []), some (.invokevirtual 71, 3, 164, 1, 0, 0, [(0, 205)]), none, none, 
  some (.iload_n 2, 1, 0, 0, 0, 0, []), some (.iadd, 1, 0, 0, 0, 0, []), some (.iaload, 1, 0, 0, 0, 0, []), some (.istore_n 3, 1, 0, 0, 0, 0, []), some (.iload_n 2, 1, 0, 0, 0, 0, []), some (.bipush 8, 2, 0, 0, 8, 0, []), 
  none, some (.if_icmp .eq 9, 3, 48, 0, 0, 0, []), none, none, some (.iload_n 2, 1, 0, 0, 0, 0, []), some (.bipush 9, 2, 0, 0, 9, 0, []), none, some (.if_icmp .ne 10, 3, 55, 0, 0, 0, []), none, none, 
  some (.iload_n 3, 1, 0, 0, 0, 0, []), some (.invokestatic 119, 3, 160, 1, 0, 0, [(0, 209)]), none, none, some (.goto 4, 3, 56, 0, 0, 0, []), none, none, some (.iload_n 3, 1, 0, 0, 0, 0, []), 
  some (.ireturn, 1, 0, 0, 0, 0, [])]
set_option maxRecDepth 100000 in
def cd183 : Cd := [some (.aload_n 0, 1, 0, 0, 0, 0, []), some (.iload_n 1, 1, 0, 0, 0, 0, []), some (.invokevirtual 114, 3, 169, 1, 0, 0, [(0, 208)]), none, none, some (.ifCond .ne 6, 3, 11, 0, 0, 0, []), none, none, 
  some (.ldc 87, 2, 0, 0, -1000000001, 0, [(0, 24)]), none, some (.ireturn, 1, 0, 0, 0, 0, []), some (.iload_n 2, 1, 0, 0, 0, 0, []), some (.bipush 9, 2, 0, 0, 9, 0, []), none, some (.if_icmp .ne 54, 3, 68, 0, 0, 0, []), 
  none, none, some (.iload_n 3, 1, 0, 0, 0, 0, []), some (.ldc 66, 2, 0, 0, -1000000005, 0, [(0, 26)]), none, some (.if_icmp .eq 21, 3, 41, 0, 0, 0, []), none, none, some (.iload_n 3, 1, 0, 0, 0, 0, []), 
  some (.i2l, 1, 0, 0, 0, 0, []), some (.aload_n 0, 1, 0, 0, 0, 0, []), some (.getfield 7, 3, 11, 0, 0, 0, [(0, 83)]), none, none, some (.iconst 0, 1, 0, 0, 0, 0, []), some (.iaload, 1, 0, 0, 0, 0, []), 
  some (.i2l, 1, 0, 0, 0, 0, []), some (.ldc2_w 112, 3, 0, 0, 0, 999, [(0, 4)]), none, none, some (.invokestatic 67, 3, 159, 3, 0, 0, [(0, 194)]), none, none, some (.ifCond .eq 30, 3, 68, 0, 0, 0, []), none, none, 
  some (.aload_n 0, 1, 0, 0, 0, 0, []), some (.aload_n 0, 1, 0, 0, 0, 0, []), some (.iload_n 1, 1, 0, 0, 0, 0, []), some (.invokevirtual 71, 3, 164, 1, 0, 0, [(0, 205)]), none, none, some (.bipush 9, 2, 0, 0, 9, 0, []), 
  none, some (.iadd, 1, 0, 0, 0, 0, []), some (.iload_n 3, 1, 0, 0, 0, 0, []), some (.ldc 66, 2, 0, 0, -1000000005, 0, [(0, 26)]), none, some (.if_icmp .ne 7, 3, 60, 0, 0, 0, []), none, none, 
  some (.iconst (-1), 1, 0, 0, -1, 0, []), some (.goto 4, 3, 61, 0, 0, 0, []), none, none, some (.iload_n 3, 1, 0, 0, 0, 0, []), some (.invokevirtual 98, 3, 162, 2, 0, 0, [(0, 198)]), none, none, 
  some (.invokestatic 119, 3, 160, 1, 0, 0, [(0, 209)]), none, none, some (.ireturn, 1, 0, 0, 0, 0, []), some (.iload_n 2, 1, 0, 0, 0, 0, []), some (.ifCond .eq 8, 3, 77, 0, 0, 0, []), none, none, 
  some (.iload_n 2, 1, 0, 0, 0, 0, []), some (.iconst 1, 1, 0, 0, 1, 0, []), some (.if_icmp .ne 15, 3, 89, 0, 0, 0, []), none, none, some (.iload_n 3, 1, 0, 0, 0, 0, []), some (.i2l, 1, 0, 0, 0, 0, []), 
  some (.lconst 0, 1, 0, 0, 0, 0, []), some (.ldc2_w 78, 3, 0, 0, 0, 3, [(0, 1)]), none, none, some (.invokestatic 67, 3, 159, 3, 0, 0, [(0, 194)]), none, none, some (.ifCond .ne 20, 3, 106, 0, 0, 0, []), none, none, 
  some (.iload_n 2, 1, 0, 0, 0, 0, []), some (.iconst 3, 1, 0, 0, 3, 0, []), some (.if_icmp .ne 19, 3, 110, 0, 0, 0, []), none, none, some (.iload_n 3, 1, 0, 0, 0, 0, []), some (.i2l, 1, 0, 0, 0, 0, []), 
  some (.lconst 0, 1, 0, 0, 0, 0, []), some (.ldc2_w 122, 3, 0, 0, 0, 9999, [(0, 6)]), none, none, some (.invokestatic 67, 3, 159, 3, 0, 0, [(0, 194)]), none, none, some (.ifCond .eq 7, 3, 110, 0, 0, 0, []), none, none, 
  some (.iconst 1, 1, 0, 0, 1, 0, []), some (.goto 4, 3, 111, 0, 0, 0, []), none, none, some (.iconst 0, 1, 0, 0, 0, 0, []), some (.istore 4, 2, 0, 0, 0, 0, []), none, some (.iload 4, 2, 0, 0, 0, 0, []), none, 
  some (.ifCond .eq 18, 3, 133, 0, 0, 0, []), none, none, some (.aload_n 0, 1, 0, 0, 0, 0, []), some (.aload_n 0, 1, 0, 0, 0, 0, []), some (.iload_n 1, 1, 0, 0, 0, 0, []), 
  some (.invokevirtual 71, 3, 164, 1, 0, 0, [(0, 205)]), none, none, some (.iload_n 2, 1, 0, 0, 0, 0, []), some (.iadd, 1, 0, 0, 0, 0, []), some (.iload_n 3, 1, 0, 0, 0, 0, []), 
  some (.invokevirtual 98, 3, 162, 2, 0, 0, [(0, 198)]), none, none, some (.goto 5, 3, 135, 0, 0, 0, []), none, none, some (.ldc 87, 2, 0, 0, -1000000001, 0, [(0, 24)]), none, some (.ireturn, 1, 0, 0, 0, 0, [])]
set_option maxRecDepth 100000 in
def cd184 : Cd := [some (.aload_n 0, 1, 0, 0, 0, 0, []), some (.getfield 7, 3, 11, 0, 0, 0, [(0, 83)]), none, none, some (.sipush 200, 3, 0, 0, 200, 0, []), none, none, some (.bipush 10, 2, 0, 0, 10, 0, []), none, 
  some (.iload_n 1, 1, 0, 0, 0, 0, []), some (.imul, 1, 0, 0, 0, 0, []), some (.iadd, 1, 0, 0, 0, 0, []), some (.iload_n 2, 1, 0, 0, 0, 0, []), some (.iadd, 1, 0, 0, 0, 0, []), some (.iaload, 1, 0, 0, 0, 0, []), 
  some (.iconst 1, 1, 0, 0, 1, 0, []), some (.if_icmp .ne 7, 3, 23, 0, 0, 0, []), none, none, some (.iconst 1, 1, 0, 0, 1, 0, []), some (.goto 4, 3, 24, 0, 0, 0, []), none, none, some (.iconst 0, 1, 0, 0, 0, 0, []), 
  some (.ireturn, 1, 0, 0, 0, 0, [])]
set_option maxRecDepth 100000 in
def cd185 : Cd := [some (.aload_n 0, 1, 0, 0, 0, 0, []), some (.iload_n 1, 1, 0, 0, 0, 0, []), some (.invokevirtual 114, 3, 169, 1, 0, 0, [(0, 208)]), none, none, some (.ifCond .eq 26, 3, 31, 0, 0, 0, []), none, none, 
  some (.aload_n 0, 1, 0, 0, 0, 0, []), some (.iload_n 2, 1, 0, 0, 0, 0, []), some (.invokevirtual 114, 3, 169, 1, 0, 0, [(0, 208)]), none, none, some (.ifCond .eq 18, 3, 31, 0, 0, 0, []), none, none, 
  some (.iload_n 1, 1, 0, 0, 0, 0, []), some (.iload_n 2, 1, 0, 0, 0, 0, []), some (.if_icmp .eq 13, 3, 31, 0, 0, 0, []), none, none, some (.iload_n 3, 1, 0, 0, 0, 0, []), some (.i2l, 1, 0, 0, 0, 0, []), 
  some (.lconst 0, 1, 0, 0, 0, 0, []), some (.lconst 1, 1, 0, 0, 0, 1, []), some (.invokestatic 67, 3, 159, 3, 0, 0, [(0, 194)]), none, none, some (.ifCond .ne 6, 3, 34, 0, 0, 0, []), none, none, 
  some (.ldc 87, 2, 0, 0, -1000000001, 0, [(0, 24)]), none, some (.ireturn, 1, 0, 0, 0, 0, []), some (.aload_n 0, 1, 0, 0, 0, 0, []), some (.getfield 7, 3, 11, 0, 0, 0, [(0, 83)]), none, none, 
  some (.sipush 200, 3, 0, 0, 200, 0, []), none, none, some (.bipush 10, 2, 0, 0, 10, 0, []), none, some (.iload_n 2, 1, 0, 0, 0, 0, []), some (.imul, 1, 0, 0, 0, 0, []), some (.iadd, 1, 0, 0, 0, 0, []), 
  some (.iload_n 1, 1, 0, 0, 0, 0, []), some (.iadd, 1, 0, 0, 0, 0, []), some (.iload_n 3, 1, 0, 0, 0, 0, []), some (.iastore, 1, 0, 0, 0, 0, []), some (.aload_n 0, 1, 0, 0, 0, 0, []), 
  some (.sipush 200, 3, 0, 0, 200, 0, []), none, none, some (.bipush 10, 2, 0, 0, 10, 0, []), none, some (.iload_n 1, 1, 0, 0, 0, 0, []), some (.imul, 1, 0, 0, 0, 0, []), some (.iadd, 1, 0, 0, 0, 0, []), 
  some (.iload_n 2, 1, 0, 0, 0, 0, []), some (.iadd, 1, 0, 0, 0, 0, []), some (.iload_n 3, 1, 0, 0, 0, 0, []), some (.invokevirtual 98, 3, 162, 2, 0, 0, [(0, 198)]), none, none, some (.ireturn, 1, 0, 0, 0, 0, [])]
set_option maxRecDepth 100000 in
def cd186 : Cd := [some (.aload_n 0, 1, 0, 0, 0, 0, []), some (.iload_n 1, 1, 0, 0, 0, 0, []), some (.invokevirtual 71, 3, 164, 1, 0, 0, [(0, 205)]), none, none, some (.istore_n 3, 1, 0, 0, 0, 0, []), some (.aload_n 0, 1, 0, 0, 0, 0, []), 
  some (.iload_n 2, 1, 0, 0, 0, 0, []), some (.invokevirtual 89, 3, 163, 1, 0, 0, [(0, 195)]), none, none, some (.istore 4, 2, 0, 0, 0, 0, []), none, some (.aload_n 0, 1, 0, 0, 0, 0, []), 
  some (.iload_n 1, 1, 0, 0, 0, 0, []), some (.invokevirtual 124, 3, 172, 1, 0, 0, [(0, 214)]), none, none, some (.ifCond .ne 77, 3, 95, 0, 0, 0, []), none, none, some (.aload_n 0, 1, 0, 0, 0, 0, []), 
  some (.getfield 7, 3, 11, 0, 0, 0, [(0, 83)]), none, none, some (.iload_n 3, 1, 0, 0, 0, 0, []), some (.iconst 0, 1, 0, 0, 0, 0, []), some (.iadd, 1, 0, 0, 0, 0, []), some (.iaload, 1, 0, 0, 0, 0, []), 
  some (.aload_n 0, 1, 0, 0, 0, 0, []), some (.getfield 7, 3, 11, 0, 0, 0, [(0, 83)]), none, none, some (.iload 4, 2, 0, 0, 0, 0, []), none, some (.iconst 1, 1, 0, 0, 1, 0, []), some (.iadd, 1, 0, 0, 0, 0, []), 
  some (.iaload, 1, 0, 0, 0, 0, []), some (.if_icmp .gt 57, 3, 95, 0, 0, 0, []), none, none, some (.aload_n 0, 1, 0, 0, 0, 0, []), some (.getfield 7, 3, 11, 0, 0, 0, [(0, 83)]), none, none, 
  some (.iload_n 3, 1, 0, 0, 0, 0, []), some (.iconst 1, 1, 0, 0, 1, 0, []), some (.iadd, 1, 0, 0, 0, 0, []), some (.iaload, 1, 0, 0, 0, 0, []), some (.aload_n 0, 1, 0, 0, 0, 0, []), 
  some (.getfield 7, 3, 11, 0, 0, 0, [(0, 83)]), none, none, some (.iload 4, 2, 0, 0, 0, 0, []), none, some (.iconst 2, 1, 0, 0, 2, 0, []), some (.iadd, 1, 0, 0, 0, 0, []), some (.iaload, 1, 0, 0, 0, 0, []), 
  some (.if_icmp .lt 37, 3, 95, 0, 0, 0, []), none, none, some (.aload_n 0, 1, 0, 0, 0, 0, []), some (.getfield 7, 3, 11, 0, 0, 0, [(0, 83)]), none, none, some (.iload_n 3, 1, 0, 0, 0, 0, []), 
  some (.bipush 9, 2, 0, 0, 9, 0, []), none, some (.iadd, 1, 0, 0, 0, 0, []), some (.iaload, 1, 0, 0, 0, 0, []), some (.aload_n 0, 1, 0, 0, 0, 0, []), some (.getfield 7, 3, 11, 0, 0, 0, [(0, 83)]), none, none, 
  some (.iconst 0, 1, 0, 0, 0, 0, []), some (.iaload, 1, 0, 0, 0, 0, []), some (.if_icmp .eq 19, 3, 95, 0, 0, 0, []), none, none, some (.aload_n 0, 1, 0, 0, 0, 0, []), some (.getfield 7, 3, 11, 0, 0, 0, [(0, 83)]), none, 
  none, some (.iload 4, 2, 0, 0, 0, 0, []), none, some (.iconst 4, 1, 0, 0, 4, 0, []), some (.iadd, 1, 0, 0, 0, 0, []), some (.iaload, 1, 0, 0, 0, 0, []), some (.ifCond .ne 7, 3, 95, 0, 0, 0, []), none, none, 
  some (.iconst 1, 1, 0, 0, 1, 0, []), some (.goto 4, 3, 96, 0, 0, 0, []), none, none, some (.iconst 0, 1, 0, 0, 0, 0, []), some (.ireturn, 1, 0, 0, 0, 0, [])]
set_option maxRecDepth 100000 in
def cd187 : Cd := [some (.aload_n 0, 1, 0, 0, 0, 0, []), some (.iload_n 1, 1, 0, 0, 0, 0, []), some (.invokevirtual 114, 3, 169, 1, 0, 0, [(0, 208)]), none, none, some (.ifCond .eq 11, 3, 16, 0, 0, 0, []), none, none, 
  some (.aload_n 0, 1, 0, 0, 0, 0, []), some (.iload_n 2, 1, 0, 0, 0, 0, []), some (.invokevirtual 92, 3, 168, 1, 0, 0, [(0, 197)]), none, none, some (.ifCond .ne 8, 3, 21, 0, 0, 0, []), none, none, 
  some (.ldc 87, 2, 0, 0, -1000000001, 0, [(0, 24)]), none, some (.goto 17, 3, 35, 0, 0, 0, []), none, none, some (.aload_n 0, 1, 0, 0, 0, 0, []), some (.iload_n 1, 1, 0, 0, 0, 0, []), some (.iload_n 2, 1, 0, 0, 0, 0, []), 
  some (.invokevirtual 127, 3, 186, 2, 0, 0, [(0, 213)]), none, none, some (.ifCond .eq 7, 3, 34, 0, 0, 0, []), none, none, some (.iconst 1, 1, 0, 0, 1, 0, []), some (.goto 4, 3, 35, 0, 0, 0, []), none, none, 
  some (.iconst 0, 1, 0, 0, 0, 0, []), some (.ireturn, 1, 0, 0, 0, 0, [])]
set_option maxRecDepth 100000 in
def cd188 : Cd := [some (.aload_n 0, 1, 0, 0, 0, 0, []), some (.getfield 7, 3, 11, 0, 0, 0, [(0, 83)]), none, none, some (.aload_n 0, 1, 0, 0, 0, 0, []), some (.iload_n 1, 1, 0, 0, 0, 0, []), 
  some (.invokevirtual 71, 3, 164, 1, 0, 0, [(0, 205)]), none, none, some (.bipush 8, 2, 0, 0, 8, 0, []), none, some (.iadd, 1, 0, 0, 0, 0, []), some (.iaload, 1, 0, 0, 0, 0, []), some (.iload_n 2, 1, 0, 0, 0, 0, []), 
  some (.if_icmp .ne 4, 3, 18, 0, 0, 0, []), none, none, some (.return_, 1, 0, 0, 0, 0, []), some (.aload_n 0, 1, 0, 0, 0, 0, []), some (.getfield 7, 3, 11, 0, 0, 0, [(0, 83)]), none, none, 
  some (.aload_n 0, 1, 0, 0, 0, 0, []), some (.iload_n 1, 1, 0, 0, 0, 0, []), some (.invokevirtual 71, 3, 164, 1, 0, 0, [(0, 205)]), none, none, some (.bipush 8, 2, 0, 0, 8, 0, []), none, some (.iadd, 1, 0, 0, 0, 0, []), 
  some (.iload_n 2, 1, 0, 0, 0, 0, []), some (.iastore, 1, 0, 0, 0, 0, []), some (.iconst 0, 1, 0, 0, 0, 0, []), some (.istore_n 3, 1, 0, 0, 0, 0, []), some (.iload_n 3, 1, 0, 0, 0, 0, []), 
  some (.aload_n 0, 1, 0, 0, 0, 0, []), some (.getfield 7, 3, 11, 0, 0, 0, [(0, 83)]), none, none, some (.iconst 3, 1, 0, 0, 3, 0, []), some (.iaload, 1, 0, 0, 0, 0, []), some (.if_icmp .ge 62, 3, 103, 0, 0, 0, []), none, 
  none, some (.aload_n 0, 1, 0, 0, 0, 0, []), some (.iload_n 3, 1, 0, 0, 0, 0, []), some (.invokevirtual 75, 3, 165, 1, 0, 0, [(0, 203)]), none, none, some (.istore 4, 2, 0, 0, 0, 0, []), none, 
  some (.aload_n 0, 1, 0, 0, 0, 0, []), some (.getfield 7, 3, 11, 0, 0, 0, [(0, 83)]), none, none, some (.iload 4, 2, 0, 0, 0, 0, []), none, some (.iconst 4, 1, 0, 0, 4, 0, []), some (.iadd, 1, 0, 0, 0, 0, []), 
  some (.iaload, 1, 0, 0, 0, 0, []), some (.iconst 1, 1, 0, 0, 1, 0, []), some (.if_icmp .ne 36, 3, 97, 0, 0, 0, []), none, none, some (.aload_n 0, 1, 0, 0, 0, 0, []), some (.getfield 7, 3, 11, 0, 0, 0, [(0, 83)]), none, 
  none, some (.iload 4, 2, 0, 0, 0, 0, []), none, some (.iconst 5, 1, 0, 0, 5, 0, []), some (.iadd, 1, 0, 0, 0, 0, []), some (.iaload, 1, 0, 0, 0, 0, []), some (.iload_n 1, 1, 0, 0, 0, 0, []), 
  some (.if_icmp .ne 23, 3, 97, 0, 0, 0, []), none, none, some (.aload_n 0, 1, 0, 0, 0, 0, []), some (.getfield 7, 3, 11, 0, 0, 0, [(0, 83)]), none, none, some (.iload 4, 2, 0, 0, 0, 0, []), none, 
  some (.iconst 4, 1, 0, 0, 4, 0, []), some (.iadd, 1, 0, 0, 0, 0, []), some (.iconst 0, 1, 0, 0, 0, 0, []), some (.iastore, 1, 0, 0, 0, 0, []), some (.aload_n 0, 1, 0, 0, 0, 0, []), 
  some (.getfield 7, 3, 11, 0, 0, 0, [(0, 83)]), none, none, some (.iload 4, 2, 0, 0, 0, 0, []), none, some (.iconst 5, 1, 0, 0, 5, 0, []), some (.iadd, 1, 0, 0, 0, 0, []), some (.iconst (-1), 1, 0, 0, -1, 0, []), 
  some (.iastore, 1, 0, 0, 0, 0, []), some (.iinc 3 1, 3, 0, 0, 1, 0, []), none, none, some (.goto (-66), 3, 34, 0, 0, 0, []), none, none, some (.return_, 1, 0, 0, 0, 0, [])]
set_option maxRecDepth 100000 in
def cd189 : Cd := [some (.aload_n 0, 1, 0, 0, 0, 0, []), some (.iload_n 1, 1, 0, 0, 0, 0, []), some (.invokevirtual 114, 3, 169, 1, 0, 0, [(0, 208)]), none, none, some (.ifCond .eq 17, 3, 22, 0, 0, 0, []), none, none, 
  some (.iload_n 2, 1, 0, 0, 0, 0, []), some (.ldc 66, 2, 0, 0, -1000000005, 0, [(0, 26)]), none, some (.if_icmp .eq 14, 3, 25, 0, 0, 0, []), none, none, some (.aload_n 0, 1, 0, 0, 0, 0, []), 
  some (.iload_n 2, 1, 0, 0, 0, 0, []), some (.invokevirtual 92, 3, 168, 1, 0, 0, [(0, 197)]), none, none, some (.ifCond .ne 6, 3, 25, 0, 0, 0, []), none, none, some (.ldc 87, 2, 0, 0, -1000000001, 0, [(0, 24)]), none, 
  some (.ireturn, 1, 0, 0, 0, 0, []), some (.aload_n 0, 1, 0, 0, 0, 0, []), some (.getfield 7, 3, 11, 0, 0, 0, [(0, 83)]), none, none, some (.aload_n 0, 1, 0, 0, 0, 0, []), some (.iload_n 1, 1, 0, 0, 0, 0, []), 
  some (.invokevirtual 71, 3, 164, 1, 0, 0, [(0, 205)]), none, none, some (.bipush 8, 2, 0, 0, 8, 0, []), none, some (.iadd, 1, 0, 0, 0, 0, []), some (.iaload, 1, 0, 0, 0, 0, []), some (.istore_n 3, 1, 0, 0, 0, 0, []), 
  some (.iload_n 2, 1, 0, 0, 0, 0, []), some (.ldc 66, 2, 0, 0, -1000000005, 0, [(0, 26)]), none, some (.if_icmp .eq 136, 3, 178, 0, 0, 0, []), none, none, some (.iconst 0, 1, 0, 0, 0, 0, []), 
  some (.istore 4, 2, 0, 0, 0, 0, []), none, some (.iconst 0, 1, 0, 0, 0, 0, []), some (.istore 5, 2, 0, 0, 0, 0, []), none, some (.iconst 0, 1, 0, 0, 0, 0, []), some (.istore 6, 2, 0, 0, 0, 0, []), none, 
  some (.iload 6, 2, 0, 0, 0, 0, []), none, some (.aload_n 0, 1, 0, 0, 0, 0, []), some (.getfield 7, 3, 11, 0, 0, 0, [(0, 83)]), none, none, some (.iconst 2, 1, 0, 0, 2, 0, []), some (.iaload, 1, 0, 0, 0, 0, []), 
  some (.if_icmp .ge 82, 3, 144, 0, 0, 0, []), none, none, some (.iload 6, 2, 0, 0, 0, 0, []), none, some (.iload_n 1, 1, 0, 0, 0, 0, []), some (.if_icmp .eq 25, 3, 93, 0, 0, 0, []), none, none, 
  some (.aload_n 0, 1, 0, 0, 0, 0, []), some (.getfield 7, 3, 11, 0, 0, 0, [(0, 83)]), none, none, some (.aload_n 0, 1, 0, 0, 0, 0, []), some (.iload 6, 2, 0, 0, 0, 0, []), none, 
  some (.invokevirtual 71, 3, 164, 1, 0, 0, [(0, 205)]), none, none, some (.bipush 8, 2, 0, 0, 8, 0, []), none, some (.iadd, 1, 0, 0, 0, 0, []), some (.iaload, 1, 0, 0, 0, 0, []), some (.iload_n 2, 1, 0, 0, 0, 0, []), 
  some (.if_icmp .ne 7, 3, 93, 0, 0, 0, []), none, none, some (.iconst 1, 1, 0, 0, 1, 0, []), some (.goto 4, 3, 94, 0, 0, 0, []), none, none, some (.iconst 0, 1, 0, 0, 0, 0, []), some (.istore 7, 2, 0, 0, 0, 0, []), none, 
  some (.iload 4, 2, 0, 0, 0, 0, []), none, some (.iload 7, 2, 0, 0, 0, 0, []), none, some (.ifCond .eq 7, 3, 107, 0, 0, 0, []), none, none, some (.iconst 1, 1, 0, 0, 1, 0, []), some (.goto 4, 3, 108, 0, 0, 0, []), none, 
  none, some (.iconst 0, 1, 0, 0, 0, 0, []), some (.iadd, 1, 0, 0, 0, 0, []), some (.istore 4, 2, 0, 0, 0, 0, []), none, some (.iload 5, 2, 0, 0, 0, 0, []), none, some (.ifCond .ne 18, 3, 131, 0, 0, 0, []), none, none, 
  some (.iload 7, 2, 0, 0, 0, 0, []), none, some (.ifCond .eq 17, 3, 135, 0, 0, 0, []), none, none, some (.aload_n 0, 1, 0, 0, 0, 0, []), some (.iload 6, 2, 0, 0, 0, 0, []), none, some (.iload_n 1, 1, 0, 0, 0, 0, []), 
  some (.invokevirtual 131, 3, 184, 2, 0, 0, [(0, 216)]), none, none, some (.ifCond .eq 7, 3, 135, 0, 0, 0, []), none, none, some (.iconst 1, 1, 0, 0, 1, 0, []), some (.goto 4, 3, 136, 0, 0, 0, []), none, none, 
  some (.iconst 0, 1, 0, 0, 0, 0, []), some (.istore 5, 2, 0, 0, 0, 0, []), none, some (.iinc 6 1, 3, 0, 0, 1, 0, []), none, none, some (.goto (-87), 3, 54, 0, 0, 0, []), none, none, some (.aload_n 0, 1, 0, 0, 0, 0, []), 
  some (.iload_n 1, 1, 0, 0, 0, 0, []), some (.iload_n 2, 1, 0, 0, 0, 0, []), some (.invokevirtual 127, 3, 186, 2, 0, 0, [(0, 213)]), none, none, some (.ifCond .eq 25, 3, 175, 0, 0, 0, []), none, none, 
  some (.iload 4, 2, 0, 0, 0, 0, []), none, some (.aload_n 0, 1, 0, 0, 0, 0, []), some (.getfield 7, 3, 11, 0, 0, 0, [(0, 83)]), none, none, some (.aload_n 0, 1, 0, 0, 0, 0, []), some (.iload_n 2, 1, 0, 0, 0, 0, []), 
  some (.invokevirtual 89, 3, 163, 1, 0, 0, [(0, 195)]), none, none, some (.iconst 0, 1, 0, 0, 0, 0, []), some (.iadd, 1, 0, 0, 0, 0, []), some (.iaload, 1, 0, 0, 0, 0, []), some (.if_icmp .eq 8, 3, 175, 0, 0, 0, []), none, 
  none, some (.iload 5, 2, 0, 0, 0, 0, []), none, some (.ifCond .eq 6, 3, 178, 0, 0, 0, []), none, none, some (.ldc 134, 2, 0, 0, -1000000002, 0, [(0, 27)]), none, some (.ireturn, 1, 0, 0, 0, 0, []), 
  some (.aload_n 0, 1, 0, 0, 0, 0, []), some (.iload_n 1, 1, 0, 0, 0, 0, []), some (.iload_n 2, 1, 0, 0, 0, 0, []), some (.ldc 66, 2, 0, 0, -1000000005, 0, [(0, 26)]), none, some (.if_icmp .ne 7, 3, 190, 0, 0, 0, []), none, 
  none, some (.iconst (-1), 1, 0, 0, -1, 0, []), some (.goto 4, 3, 191, 0, 0, 0, []), none, none, some (.iload_n 2, 1, 0, 0, 0, 0, []), some (.invokevirtual 135, 3, 188, 2, 0, 0, [(0, 217)]), none, none, 
  some (.iload_n 3, 1, 0, 0, 0, 0, []), some (.invokestatic 119, 3, 160, 1, 0, 0, [(0, 209)]), none, none, some (.ireturn, 1, 0, 0, 0, 0, [])]
set_option maxRecDepth 100000 in
def cd190 : Cd := [some (.aload_n 0, 1, 0, 0, 0, 0, []), some (.iload_n 1, 1, 0, 0, 0, 0, []), some (.iload_n 2, 1, 0, 0, 0, 0, []), some (.invokevirtual 127, 3, 186, 2, 0, 0, [(0, 213)]), none, none, 
  some (.ifCond .eq 24, 3, 30, 0, 0, 0, []), none, none, some (.aload_n 0, 1, 0, 0, 0, 0, []), some (.getfield 35, 3, 11, 9, 9, 0, [(0, 92)]), none, none, some (.iload_n 2, 1, 0, 0, 0, 0, []), 
  some (.iaload, 1, 0, 0, 0, 0, []), some (.aload_n 0, 1, 0, 0, 0, 0, []), some (.getfield 7, 3, 11, 0, 0, 0, [(0, 83)]), none, none, some (.aload_n 0, 1, 0, 0, 0, 0, []), some (.iload_n 2, 1, 0, 0, 0, 0, []), 
  some (.invokevirtual 89, 3, 163, 1, 0, 0, [(0, 195)]), none, none, some (.iconst 0, 1, 0, 0, 0, 0, []), some (.iadd, 1, 0, 0, 0, 0, []), some (.iaload, 1, 0, 0, 0, 0, []), some (.if_icmp .ne 5, 3, 32, 0, 0, 0, []), none, 
  none, some (.iconst 0, 1, 0, 0, 0, 0, []), some (.ireturn, 1, 0, 0, 0, 0, []), some (.iconst 1, 1, 0, 0, 1, 0, []), some (.istore_n 3, 1, 0, 0, 0, 0, []), some (.iconst 0, 1, 0, 0, 0, 0, []), 
  some (.istore 4, 2, 0, 0, 0, 0, []), none, some (.iload 4, 2, 0, 0, 0, 0, []), none, some (.iload_n 1, 1, 0, 0, 0, 0, []), some (.if_icmp .ge 40, 3, 80, 0, 0, 0, []), none, none, some (.iload_n 3, 1, 0, 0, 0, 0, []), 
  some (.ifCond .eq 28, 3, 72, 0, 0, 0, []), none, none, some (.aload_n 0, 1, 0, 0, 0, 0, []), some (.getfield 29, 3, 11, 7, 7, 0, [(0, 90)]), none, none, some (.iload 4, 2, 0, 0, 0, 0, []), none, 
  some (.iaload, 1, 0, 0, 0, 0, []), some (.iload_n 2, 1, 0, 0, 0, 0, []), some (.if_icmp .ne 13, 3, 68, 0, 0, 0, []), none, none, some (.aload_n 0, 1, 0, 0, 0, 0, []), some (.iload 4, 2, 0, 0, 0, 0, []), none, 
  some (.iload_n 1, 1, 0, 0, 0, 0, []), some (.invokevirtual 131, 3, 184, 2, 0, 0, [(0, 216)]), none, none, some (.ifCond .ne 7, 3, 72, 0, 0, 0, []), none, none, some (.iconst 1, 1, 0, 0, 1, 0, []), 
  some (.goto 4, 3, 73, 0, 0, 0, []), none, none, some (.iconst 0, 1, 0, 0, 0, 0, []), some (.istore_n 3, 1, 0, 0, 0, 0, []), some (.iinc 4 1, 3, 0, 0, 1, 0, []), none, none, some (.goto (-40), 3, 37, 0, 0, 0, []), none, 
  none, some (.iload_n 3, 1, 0, 0, 0, 0, []), some (.ireturn, 1, 0, 0, 0, 0, [])]
set_option maxRecDepth 100000 in
def cd191 : Cd := [some (.iload_n 2, 1, 0, 0, 0, 0, []), some (.aload_n 0, 1, 0, 0, 0, 0, []), some (.getfield 7, 3, 11, 0, 0, 0, [(0, 83)]), none, none, some (.iconst 2, 1, 0, 0, 2, 0, []), some (.iaload, 1, 0, 0, 0, 0, []), 
  some (.iadd, 1, 0, 0, 0, 0, []), some (.iload_n 1, 1, 0, 0, 0, 0, []), some (.isub, 1, 0, 0, 0, 0, []), some (.istore 4, 2, 0, 0, 0, 0, []), none, some (.iload 4, 2, 0, 0, 0, 0, []), none, 
  some (.aload_n 0, 1, 0, 0, 0, 0, []), some (.getfield 139, 3, 11, 10, 10, 0, [(0, 93)]), none, none, some (.if_icmp .lt 20, 3, 38, 0, 0, 0, []), none, none, some (.iload 4, 2, 0, 0, 0, 0, []), none, 
  some (.aload_n 0, 1, 0, 0, 0, 0, []), some (.getfield 139, 3, 11, 10, 10, 0, [(0, 93)]), none, none, some (.if_icmp .ne 12, 3, 39, 0, 0, 0, []), none, none, some (.iload_n 3, 1, 0, 0, 0, 0, []), 
  some (.aload_n 0, 1, 0, 0, 0, 0, []), some (.getfield 143, 3, 11, 11, 11, 0, [(0, 94)]), none, none, some (.if_icmp .lt 4, 3, 39, 0, 0, 0, []), none, none, some (.return_, 1, 0, 0, 0, 0, []), 
  some (.iload_n 1, 1, 0, 0, 0, 0, []), some (.aload_n 0, 1, 0, 0, 0, 0, []), some (.getfield 7, 3, 11, 0, 0, 0, [(0, 83)]), none, none, some (.iconst 2, 1, 0, 0, 2, 0, []), some (.iaload, 1, 0, 0, 0, 0, []), 
  some (.if_icmp .ne 43, 3, 89, 0, 0, 0, []), none, none, some (.aload_n 0, 1, 0, 0, 0, 0, []), some (.iload_n 2, 1, 0, 0, 0, 0, []), some (.putfield 139, 3, 11, 10, 10, 0, [(0, 93)]), none, none, 
  some (.aload_n 0, 1, 0, 0, 0, 0, []), some (.iload_n 3, 1, 0, 0, 0, 0, []), some (.putfield 143, 3, 11, 11, 11, 0, [(0, 94)]), none, none, some (.iconst 0, 1, 0, 0, 0, 0, []), some (.istore 5, 2, 0, 0, 0, 0, []), none, 
  some (.iload 5, 2, 0, 0, 0, 0, []), none, some (.iload_n 1, 1, 0, 0, 0, 0, []), some (.if_icmp .ge 23, 3, 88, 0, 0, 0, []), none, none, some (.aload_n 0, 1, 0, 0, 0, 0, []), some (.getfield 32, 3, 11, 8, 8, 0, [(0, 91)]), 
  none, none, some (.iload 5, 2, 0, 0, 0, 0, []), none, some (.aload_n 0, 1, 0, 0, 0, 0, []), some (.getfield 29, 3, 11, 7, 7, 0, [(0, 90)]), none, none, some (.iload 5, 2, 0, 0, 0, 0, []), none, 
  some (.iaload, 1, 0, 0, 0, 0, []), some (.iastore, 1, 0, 0, 0, 0, []), some (.iinc 5 1, 3, 0, 0, 1, 0, []), none, none, some (.goto (-23), 3, 62, 0, 0, 0, []), none, none, some (.return_, 1, 0, 0, 0, 0, []), 
  some (.iconst 0, 1, 0, 0, 0, 0, []), some (.istore 5, 2, 0, 0, 0, 0, []), none, some (.iload 5, 2, 0, 0, 0, 0, []), none, some (.aload_n 0, 1, 0, 0, 0, 0, []), some (.getfield 7, 3, 11, 0, 0, 0, [(0, 83)]), none, none, 
  some (.iconst 1, 1, 0, 0, 1, 0, []), some (.iaload, 1, 0, 0, 0, 0, []), some (.if_icmp .ge 74, 3, 174, 0, 0, 0, []), none, none, some (.aload_n 0, 1, 0, 0, 0, 0, []), some (.iload_n 1, 1, 0, 0, 0, 0, []), 
  some (.iload 5, 2, 0, 0, 0, 0, []), none, some (.invokevirtual 146, 3, 190, 2, 0, 0, [(0, 221)]), none, none, some (.ifCond .eq 58, 3, 168, 0, 0, 0, []), none, none, some (.aload_n 0, 1, 0, 0, 0, 0, []), 
  some (.getfield 29, 3, 11, 7, 7, 0, [(0, 90)]), none, none, some (.iload_n 1, 1, 0, 0, 0, 0, []), some (.iload 5, 2, 0, 0, 0, 0, []), none, some (.iastore, 1, 0, 0, 0, 0, []), some (.aload_n 0, 1, 0, 0, 0, 0, []), 
  some (.getfield 35, 3, 11, 9, 9, 0, [(0, 92)]), none, none, some (.iload 5, 2, 0, 0, 0, 0, []), none, some (.dup2, 1, 0, 0, 0, 0, []), some (.iaload, 1, 0, 0, 0, 0, []), some (.iconst 1, 1, 0, 0, 1, 0, []), 
  some (.iadd, 1, 0, 0, 0, 0, []), some (.iastore, 1, 0, 0, 0, 0, []), some (.aload_n 0, 1, 0, 0, 0, 0, []), some (.iload_n 1, 1, 0, 0, 0, 0, []), some (.iconst 1, 1, 0, 0, 1, 0, []), some (.iadd, 1, 0, 0, 0, 0, []), 
  some (.iload_n 2, 1, 0, 0, 0, 0, []), some (.iconst 1, 1, 0, 0, 1, 0, []), some (.iadd, 1, 0, 0, 0, 0, []), some (.iload_n 3, 1, 0, 0, 0, 0, []), some (.aload_n 0, 1, 0, 0, 0, 0, []), 
  some (.getfield 7, 3, 11, 0, 0, 0, [(0, 83)]), none, none, some (.aload_n 0, 1, 0, 0, 0, 0, []), some (.iload_n 1, 1, 0, 0, 0, 0, []), some (.invokevirtual 71, 3, 164, 1, 0, 0, [(0, 205)]), none, none, 
  some (.bipush 6, 2, 0, 0, 6, 0, []), none, some (.iadd, 1, 0, 0, 0, 0, []), some (.iaload, 1, 0, 0, 0, 0, []), some (.iadd, 1, 0, 0, 0, 0, []), some (.invokevirtual 149, 3, 191, 3, 0, 0, [(0, 220)]), none, none, 
  some (.aload_n 0, 1, 0, 0, 0, 0, []), some (.getfield 35, 3, 11, 9, 9, 0, [(0, 92)]), none, none, some (.iload 5, 2, 0, 0, 0, 0, []), none, some (.dup2, 1, 0, 0, 0, 0, []), some (.iaload, 1, 0, 0, 0, 0, []), 
  some (.iconst 1, 1, 0, 0, 1, 0, []), some (.isub, 1, 0, 0, 0, 0, []), some (.iastore, 1, 0, 0, 0, 0, []), some (.iinc 5 1, 3, 0, 0, 1, 0, []), none, none, some (.goto (-79), 3, 92, 0, 0, 0, []), none, none, 
  some (.aload_n 0, 1, 0, 0, 0, 0, []), some (.getfield 29, 3, 11, 7, 7, 0, [(0, 90)]), none, none, some (.iload_n 1, 1, 0, 0, 0, 0, []), some (.iconst 3, 1, 0, 0, 3, 0, []), some (.iastore, 1, 0, 0, 0, 0, []), 
  some (.aload_n 0, 1, 0, 0, 0, 0, []), some (.iload_n 1, 1, 0, 0, 0, 0, []), some (.iconst 1, 1, 0, 0, 1, 0, []), some (.iadd, 1, 0, 0, 0, 0, []), some (.iload_n 2, 1, 0, 0, 0, 0, []), some (.iload_n 3, 1, 0, 0, 0, 0, []), 
  some (.invokevirtual 149, 3, 191, 3, 0, 0, [(0, 220)]), none, none, some (.return_, 1, 0, 0, 0, 0, [])]
set_option maxRecDepth 100000 in
def cd192 : Cd := [some (.aload_n 0, 1, 0, 0, 0, 0, []), some (.iconst (-1), 1, 0, 0, -1, 0, []), some (.putfield 139, 3, 11, 10, 10, 0, [(0, 93)]), none, none, some (.aload_n 0, 1, 0, 0, 0, 0, []), some (.iconst 0, 1, 0, 0, 0, 0, []), 
  some (.putfield 143, 3, 11, 11, 11, 0, [(0, 94)]), none, none, some (.aload_n 0, 1, 0, 0, 0, 0, []), some (.iconst 0, 1, 0, 0, 0, 0, []), some (.iconst 0, 1, 0, 0, 0, 0, []), some (.iconst 0, 1, 0, 0, 0, 0, []), 
  some (.invokevirtual 149, 3, 191, 3, 0, 0, [(0, 220)]), none, none, some (.return_, 1, 0, 0, 0, 0, [])]
set_option maxRecDepth 100000 in
def cd193 : Cd := [some (.iload_n 1, 1, 0, 0, 0, 0, []), some (.i2l, 1, 0, 0, 0, 0, []), some (.lconst 0, 1, 0, 0, 0, 0, []), some (.aload_n 0, 1, 0, 0, 0, 0, []), some (.getfield 7, 3, 11, 0, 0, 0, [(0, 83)]), none, none, 
  some (.iconst 2, 1, 0, 0, 2, 0, []), some (.iaload, 1, 0, 0, 0, 0, []), some (.iconst 1, 1, 0, 0, 1, 0, []), some (.iadd, 1, 0, 0, 0, 0, []), some (.i2l, 1, 0, 0, 0, 0, []), 
  some (.invokestatic 67, 3, 159, 3, 0, 0, [(0, 194)]), none, none, some (.ifCond .ne 6, 3, 21, 0, 0, 0, []), none, none, some (.ldc 87, 2, 0, 0, -1000000001, 0, [(0, 24)]), none, some (.ireturn, 1, 0, 0, 0, 0, []), 
  some (.aload_n 0, 1, 0, 0, 0, 0, []), some (.invokevirtual 153, 3, 192, 0, 0, 0, [(0, 219)]), none, none, some (.iload_n 1, 1, 0, 0, 0, 0, []), some (.ifCond .ne 10, 3, 36, 0, 0, 0, []), none, none, 
  some (.aload_n 0, 1, 0, 0, 0, 0, []), some (.getfield 139, 3, 11, 10, 10, 0, [(0, 93)]), none, none, some (.goto 40, 3, 73, 0, 0, 0, []), none, none, some (.iload_n 1, 1, 0, 0, 0, 0, []), 
  some (.iconst 1, 1, 0, 0, 1, 0, []), some (.if_icmp .ne 10, 3, 48, 0, 0, 0, []), none, none, some (.aload_n 0, 1, 0, 0, 0, 0, []), some (.getfield 143, 3, 11, 11, 11, 0, [(0, 94)]), none, none, 
  some (.goto 28, 3, 73, 0, 0, 0, []), none, none, some (.aload_n 0, 1, 0, 0, 0, 0, []), some (.getfield 32, 3, 11, 8, 8, 0, [(0, 91)]), none, none, some (.iload_n 1, 1, 0, 0, 0, 0, []), some (.iconst 2, 1, 0, 0, 2, 0, []), 
  some (.isub, 1, 0, 0, 0, 0, []), some (.iaload, 1, 0, 0, 0, 0, []), some (.iconst 3, 1, 0, 0, 3, 0, []), some (.if_icmp .ne 8, 3, 65, 0, 0, 0, []), none, none, some (.ldc 66, 2, 0, 0, -1000000005, 0, [(0, 26)]), none, 
  some (.goto 11, 3, 73, 0, 0, 0, []), none, none, some (.aload_n 0, 1, 0, 0, 0, 0, []), some (.getfield 32, 3, 11, 8, 8, 0, [(0, 91)]), none, none, some (.iload_n 1, 1, 0, 0, 0, 0, []), some (.iconst 2, 1, 0, 0, 2, 0, []), 
  some (.isub, 1, 0, 0, 0, 0, []), some (.iaload, 1, 0, 0, 0, 0, []), some (.ireturn, 1, 0, 0, 0, 0, [])]
set_option maxRecDepth 100000 in
def cd194 : Cd := [some (.aload_n 0, 1, 0, 0, 0, 0, []), some (.invokevirtual 153, 3, 192, 0, 0, 0, [(0, 219)]), none, none, some (.iconst 0, 1, 0, 0, 0, 0, []), some (.istore_n 1, 1, 0, 0, 0, 0, []), some (.iconst 0, 1, 0, 0, 0, 0, []), 
  some (.istore_n 2, 1, 0, 0, 0, 0, []), some (.iload_n 2, 1, 0, 0, 0, 0, []), some (.aload_n 0, 1, 0, 0, 0, 0, []), some (.getfield 7, 3, 11, 0, 0, 0, [(0, 83)]), none, none, some (.iconst 2, 1, 0, 0, 2, 0, []), 
  some (.iaload, 1, 0, 0, 0, 0, []), some (.if_icmp .ge 64, 3, 79, 0, 0, 0, []), none, none, some (.aload_n 0, 1, 0, 0, 0, 0, []), some (.getfield 32, 3, 11, 8, 8, 0, [(0, 91)]), none, none, 
  some (.iload_n 2, 1, 0, 0, 0, 0, []), some (.iaload, 1, 0, 0, 0, 0, []), some (.iconst 3, 1, 0, 0, 3, 0, []), some (.if_icmp .ne 7, 3, 32, 0, 0, 0, []), none, none, some (.iconst (-1), 1, 0, 0, -1, 0, []), 
  some (.goto 9, 3, 38, 0, 0, 0, []), none, none, some (.aload_n 0, 1, 0, 0, 0, 0, []), some (.getfield 32, 3, 11, 8, 8, 0, [(0, 91)]), none, none, some (.iload_n 2, 1, 0, 0, 0, 0, []), some (.iaload, 1, 0, 0, 0, 0, []), 
  some (.istore_n 3, 1, 0, 0, 0, 0, []), some (.aload_n 0, 1, 0, 0, 0, 0, []), some (.iload_n 2, 1, 0, 0, 0, 0, []), some (.invokevirtual 124, 3, 172, 1, 0, 0, [(0, 214)]), none, none, 
  some (.ifCond .ne 29, 3, 73, 0, 0, 0, []), none, none, some (.aload_n 0, 1, 0, 0, 0, 0, []), some (.getfield 7, 3, 11, 0, 0, 0, [(0, 83)]), none, none, some (.aload_n 0, 1, 0, 0, 0, 0, []), 
  some (.iload_n 2, 1, 0, 0, 0, 0, []), some (.invokevirtual 71, 3, 164, 1, 0, 0, [(0, 205)]), none, none, some (.bipush 8, 2, 0, 0, 8, 0, []), none, some (.iadd, 1, 0, 0, 0, 0, []), some (.iaload, 1, 0, 0, 0, 0, []), 
  some (.iload_n 3, 1, 0, 0, 0, 0, []), some (.if_icmp .eq 12, 3, 73, 0, 0, 0, []), none, none, some (.aload_n 0, 1, 0, 0, 0, 0, []), some (.iload_n 2, 1, 0, 0, 0, 0, []), some (.iload_n 3, 1, 0, 0, 0, 0, []), 
  some (.invokevirtual 135, 3, 188, 2, 0, 0, [(0, 217)]), none, none, some (.iinc 1 1, 3, 0, 0, 1, 0, []), none, none, some (.iinc 2 1, 3, 0, 0, 1, 0, []), none, none, some (.goto (-68), 3, 8, 0, 0, 0, []), none, none, 
  some (.iload_n 1, 1, 0, 0, 0, 0, []), some (.ireturn, 1, 0, 0, 0, 0, [])]
set_option maxRecDepth 100000 in
def cd195 : Cd := [some (.iconst 0, 1, 0, 0, 0, 0, []), some (.istore_n 1, 1, 0, 0, 0, 0, []), some (.iconst 0, 1, 0, 0, 0, 0, []), some (.istore_n 2, 1, 0, 0, 0, 0, []), some (.iload_n 2, 1, 0, 0, 0, 0, []), 
  some (.aload_n 0, 1, 0, 0, 0, 0, []), some (.getfield 7, 3, 11, 0, 0, 0, [(0, 83)]), none, none, some (.iconst 2, 1, 0, 0, 2, 0, []), some (.iaload, 1, 0, 0, 0, 0, []), some (.if_icmp .ge 59, 3, 70, 0, 0, 0, []), none, 
  none, some (.iload_n 1, 1, 0, 0, 0, 0, []), some (.aload_n 0, 1, 0, 0, 0, 0, []), some (.iload_n 2, 1, 0, 0, 0, 0, []), some (.invokevirtual 124, 3, 172, 1, 0, 0, [(0, 214)]), none, none, 
  some (.ifCond .ne 41, 3, 61, 0, 0, 0, []), none, none, some (.aload_n 0, 1, 0, 0, 0, 0, []), some (.getfield 7, 3, 11, 0, 0, 0, [(0, 83)]), none, none, some (.aload_n 0, 1, 0, 0, 0, 0, []), 
  some (.iload_n 2, 1, 0, 0, 0, 0, []), some (.invokevirtual 71, 3, 164, 1, 0, 0, [(0, 205)]), none, none, some (.bipush 6, 2, 0, 0, 6, 0, []), none, some (.iadd, 1, 0, 0, 0, 0, []), some (.iaload, 1, 0, 0, 0, 0, []), 
  some (.ifCond .ne 25, 3, 61, 0, 0, 0, []), none, none, some (.aload_n 0, 1, 0, 0, 0, 0, []), some (.getfield 7, 3, 11, 0, 0, 0, [(0, 83)]), none, none, some (.aload_n 0, 1, 0, 0, 0, 0, []), 
  some (.iload_n 2, 1, 0, 0, 0, 0, []), some (.invokevirtual 71, 3, 164, 1, 0, 0, [(0, 205)]), none, none, some (.bipush 8, 2, 0, 0, 8, 0, []), none, some (.iadd, 1, 0, 0, 0, 0, []), some (.iaload, 1, 0, 0, 0, 0, []), 
  some (.ifCond .ge 9, 3, 61, 0, 0, 0, []), none, none, some (.iconst 1, 1, 0, 0, 1, 0, []), some (.iload_n 2, 1, 0, 0, 0, 0, []), some (.ishl, 1, 0, 0, 0, 0, []), some (.goto 4, 3, 62, 0, 0, 0, []), none, none, 
  some (.iconst 0, 1, 0, 0, 0, 0, []), some (.ior, 1, 0, 0, 0, 0, []), some (.istore_n 1, 1, 0, 0, 0, 0, []), some (.iinc 2 1, 3, 0, 0, 1, 0, []), none, none, some (.goto (-63), 3, 4, 0, 0, 0, []), none, none, 
  some (.iload_n 1, 1, 0, 0, 0, 0, []), some (.ireturn, 1, 0, 0, 0, 0, [])]
set_option maxRecDepth 100000 in
def cd196 : Cd := [some (.iload_n 0, 1, 0, 0, 0, 0, []), some (.iconst 5, 1, 0, 0, 5, 0, []), some (.if_icmp .eq 9, 3, 11, 0, 0, 0, []), none, none, some (.iload_n 2, 1, 0, 0, 0, 0, []), some (.ifCond .eq 5, 3, 11, 0, 0, 0, []), none, none, 
  some (.iconst 0, 1, 0, 0, 0, 0, []), some (.ireturn, 1, 0, 0, 0, 0, []), some (.iload_n 0, 1, 0, 0, 0, 0, []), 
  some (.tableswitch 66 0 4 #[36, 36, 46, 46, 56], 36, 78, 0, 0, 0, [(0, 48), (1, 48), (2, 58), (3, 58), (4, 68)]), none, none, none, none, none, none, none, none, none, none, none, none, none, none, none, none, none, none, 
  none, none, none, none, none, none, none, none, none, none, none, none, none, none, none, none, none, some (.iload_n 1, 1, 0, 0, 0, 0, []), some (.ifCond .ne 7, 3, 56, 0, 0, 0, []), none, none, 
  some (.iconst 1, 1, 0, 0, 1, 0, []), some (.goto 4, 3, 57, 0, 0, 0, []), none, none, some (.iconst 0, 1, 0, 0, 0, 0, []), some (.ireturn, 1, 0, 0, 0, 0, []), some (.iload_n 1, 1, 0, 0, 0, 0, []), 
  some (.i2l, 1, 0, 0, 0, 0, []), some (.lconst 0, 1, 0, 0, 0, 0, []), some (.ldc2_w 78, 3, 0, 0, 0, 3, [(0, 1)]), none, none, some (.invokestatic 67, 3, 159, 3, 0, 0, [(0, 194)]), none, none, 
  some (.ireturn, 1, 0, 0, 0, 0, []), some (.iload_n 1, 1, 0, 0, 0, 0, []), some (.i2l, 1, 0, 0, 0, 0, []), some (.lconst 0, 1, 0, 0, 0, 0, []), some (.ldc2_w 122, 3, 0, 0, 0, 9999, [(0, 6)]), none, none, 
  some (.invokestatic 67, 3, 159, 3, 0, 0, [(0, 194)]), none, none, some (.ireturn, 1, 0, 0, 0, 0, []), some (.iload_n 0, 1, 0, 0, 0, 0, []), some (.iconst 5, 1, 0, 0, 5, 0, []), some (.if_icmp .ne 31, 3, 111, 0, 0, 0, []), 
  none, none, some (.iload_n 1, 1, 0, 0, 0, 0, []), some (.i2l, 1, 0, 0, 0, 0, []), some (.lconst 1, 1, 0, 0, 0, 1, []), some (.ldc2_w 122, 3, 0, 0, 0, 9999, [(0, 6)]), none, none, 
  some (.invokestatic 67, 3, 159, 3, 0, 0, [(0, 194)]), none, none, some (.ifCond .eq 19, 3, 111, 0, 0, 0, []), none, none, some (.iload_n 2, 1, 0, 0, 0, 0, []), some (.i2l, 1, 0, 0, 0, 0, []), 
  some (.lconst 0, 1, 0, 0, 0, 0, []), some (.ldc2_w 112, 3, 0, 0, 0, 999, [(0, 4)]), none, none, some (.invokestatic 67, 3, 159, 3, 0, 0, [(0, 194)]), none, none, some (.ifCond .eq 7, 3, 111, 0, 0, 0, []), none, none, 
  some (.iconst 1, 1, 0, 0, 1, 0, []), some (.goto 4, 3, 112, 0, 0, 0, []), none, none, some (.iconst 0, 1, 0, 0, 0, 0, []), some (.ireturn, 1, 0, 0, 0, 0, [])]
set_option maxRecDepth 100000 in
def cd197 : Cd := [some (.aload_n 0, 1, 0, 0, 0, 0, []), some (.iload_n 2, 1, 0, 0, 0, 0, []), some (.invokevirtual 92, 3, 168, 1, 0, 0, [(0, 197)]), none, none, some (.ifCond .eq 13, 3, 18, 0, 0, 0, []), none, none, 
  some (.iload_n 1, 1, 0, 0, 0, 0, []), some (.iload_n 3, 1, 0, 0, 0, 0, []), some (.iload 4, 2, 0, 0, 0, 0, []), none, some (.invokestatic 156, 3, 196, 3, 0, 0, [(0, 225)]), none, none, 
  some (.ifCond .ne 6, 3, 21, 0, 0, 0, []), none, none, some (.ldc 87, 2, 0, 0, -1000000001, 0, [(0, 24)]), none, some (.ireturn, 1, 0, 0, 0, 0, []), some (.aload_n 0, 1, 0, 0, 0, 0, []), 
  some (.getfield 7, 3, 11, 0, 0, 0, [(0, 83)]), none, none, some (.iconst 3, 1, 0, 0, 3, 0, []), some (.iaload, 1, 0, 0, 0, 0, []), some (.bipush 30, 2, 0, 0, 30, 0, []), none, some (.if_icmp .ne 6, 3, 35, 0, 0, 0, []), 
  none, none, some (.ldc 88, 2, 0, 0, -1000000003, 0, [(0, 25)]), none, some (.ireturn, 1, 0, 0, 0, 0, []), some (.aload_n 0, 1, 0, 0, 0, 0, []), some (.aload_n 0, 1, 0, 0, 0, 0, []), 
  some (.getfield 7, 3, 11, 0, 0, 0, [(0, 83)]), none, none, some (.iconst 3, 1, 0, 0, 3, 0, []), some (.iaload, 1, 0, 0, 0, 0, []), some (.invokevirtual 75, 3, 165, 1, 0, 0, [(0, 203)]), none, none, 
  some (.istore 5, 2, 0, 0, 0, 0, []), none, some (.iconst 0, 1, 0, 0, 0, 0, []), some (.istore 6, 2, 0, 0, 0, 0, []), none, some (.iload 6, 2, 0, 0, 0, 0, []), none, some (.bipush 9, 2, 0, 0, 9, 0, []), none, 
  some (.if_icmp .ge 20, 3, 74, 0, 0, 0, []), none, none, some (.aload_n 0, 1, 0, 0, 0, 0, []), some (.getfield 7, 3, 11, 0, 0, 0, [(0, 83)]), none, none, some (.iload 5, 2, 0, 0, 0, 0, []), none, 
  some (.iload 6, 2, 0, 0, 0, 0, []), none, some (.iadd, 1, 0, 0, 0, 0, []), some (.iconst 0, 1, 0, 0, 0, 0, []), some (.iastore, 1, 0, 0, 0, 0, []), some (.iinc 6 1, 3, 0, 0, 1, 0, []), none, none, 
  some (.goto (-21), 3, 50, 0, 0, 0, []), none, none, some (.aload_n 0, 1, 0, 0, 0, 0, []), some (.getfield 7, 3, 11, 0, 0, 0, [(0, 83)]), none, none, some (.iload 5, 2, 0, 0, 0, 0, []), none, 
  some (.iload_n 1, 1, 0, 0, 0, 0, []), some (.iastore, 1, 0, 0, 0, 0, []), some (.aload_n 0, 1, 0, 0, 0, 0, []), some (.getfield 7, 3, 11, 0, 0, 0, [(0, 83)]), none, none, some (.iload 5, 2, 0, 0, 0, 0, []), none, 
  some (.iconst 1, 1, 0, 0, 1, 0, []), some (.iadd, 1, 0, 0, 0, 0, []), some (.iload_n 2, 1, 0, 0, 0, 0, []), some (.iastore, 1, 0, 0, 0, 0, []), some (.aload_n 0, 1, 0, 0, 0, 0, []), 
  some (.getfield 7, 3, 11, 0, 0, 0, [(0, 83)]), none, none, some (.iload 5, 2, 0, 0, 0, 0, []), none, some (.iconst 2, 1, 0, 0, 2, 0, []), some (.iadd, 1, 0, 0, 0, 0, []), some (.iload_n 3, 1, 0, 0, 0, 0, []), 
  some (.iastore, 1, 0, 0, 0, 0, []), some (.aload_n 0, 1, 0, 0, 0, 0, []), some (.getfield 7, 3, 11, 0, 0, 0, [(0, 83)]), none, none, some (.iload 5, 2, 0, 0, 0, 0, []), none, some (.iconst 3, 1, 0, 0, 3, 0, []), 
  some (.iadd, 1, 0, 0, 0, 0, []), some (.iload 4, 2, 0, 0, 0, 0, []), none, some (.iastore, 1, 0, 0, 0, 0, []), some (.aload_n 0, 1, 0, 0, 0, 0, []), some (.getfield 7, 3, 11, 0, 0, 0, [(0, 83)]), none, none, 
  some (.iload 5, 2, 0, 0, 0, 0, []), none, some (.iconst 5, 1, 0, 0, 5, 0, []), some (.iadd, 1, 0, 0, 0, 0, []), some (.iconst (-1), 1, 0, 0, -1, 0, []), some (.iastore, 1, 0, 0, 0, 0, []), 
  some (.aload_n 0, 1, 0, 0, 0, 0, []), some (.getfield 7, 3, 11, 0, 0, 0, [(0, 83)]), none, none, some (.iload 5, 2, 0, 0, 0, 0, []), none, some (.bipush 6, 2, 0, 0, 6, 0, []), none, some (.iadd, 1, 0, 0, 0, 0, []), 
  some (.iconst (-1), 1, 0, 0, -1, 0, []), some (.iastore, 1, 0, 0, 0, 0, []), some (.aload_n 0, 1, 0, 0, 0, 0, []), some (.getfield 7, 3, 11, 0, 0, 0, [(0, 83)]), none, none, some (.iconst 3, 1, 0, 0, 3, 0, []), 
  some (.dup2, 1, 0, 0, 0, 0, []), some (.iaload, 1, 0, 0, 0, 0, []), some (.iconst 1, 1, 0, 0, 1, 0, []), some (.iadd, 1, 0, 0, 0, 0, []), some (.iastore, 1, 0, 0, 0, 0, []), some (.aload_n 0, 1, 0, 0, 0, 0, []), 
  some (.getfield 7, 3, 11, 0, 0, 0, [(0, 83)]), none, none, some (.iconst 3, 1, 0, 0, 3, 0, []), some (.iaload, 1, 0, 0, 0, 0, []), some (.iconst 1, 1, 0, 0, 1, 0, []), some (.isub, 1, 0, 0, 0, 0, []), 
  some (.ireturn, 1, 0, 0, 0, 0, [])]
set_option maxRecDepth 100000 in
def cd198 : Cd := [some (.aload_n 0, 1, 0, 0, 0, 0, []), some (.iload_n 1, 1, 0, 0, 0, 0, []), some (.invokevirtual 160, 3, 170, 1, 0, 0, [(0, 227)]), none, none, some (.ifCond .eq 15, 3, 20, 0, 0, 0, []), none, none, 
  some (.iload_n 2, 1, 0, 0, 0, 0, []), some (.i2l, 1, 0, 0, 0, 0, []), some (.lconst 0, 1, 0, 0, 0, 0, []), some (.ldc2_w 163, 3, 0, 0, 0, 6, [(0, 7)]), none, none, some (.invokestatic 67, 3, 159, 3, 0, 0, [(0, 194)]), 
  none, none, some (.ifCond .ne 6, 3, 23, 0, 0, 0, []), none, none, some (.ldc 87, 2, 0, 0, -1000000001, 0, [(0, 24)]), none, some (.ireturn, 1, 0, 0, 0, 0, []), some (.aload_n 0, 1, 0, 0, 0, 0, []), 
  some (.getfield 7, 3, 11, 0, 0, 0, [(0, 83)]), none, none, some (.aload_n 0, 1, 0, 0, 0, 0, []), some (.iload_n 1, 1, 0, 0, 0, 0, []), some (.invokevirtual 75, 3, 165, 1, 0, 0, [(0, 203)]), none, none, 
  some (.iload_n 2, 1, 0, 0, 0, 0, []), some (.iadd, 1, 0, 0, 0, 0, []), some (.iaload, 1, 0, 0, 0, 0, []), some (.istore_n 3, 1, 0, 0, 0, 0, []), some (.iload_n 2, 1, 0, 0, 0, 0, []), some (.iconst 5, 1, 0, 0, 5, 0, []), 
  some (.if_icmp .eq 9, 3, 47, 0, 0, 0, []), none, none, some (.iload_n 2, 1, 0, 0, 0, 0, []), some (.bipush 6, 2, 0, 0, 6, 0, []), none, some (.if_icmp .ne 10, 3, 54, 0, 0, 0, []), none, none, 
  some (.iload_n 3, 1, 0, 0, 0, 0, []), some (.invokestatic 119, 3, 160, 1, 0, 0, [(0, 209)]), none, none, some (.goto 4, 3, 55, 0, 0, 0, []), none, none, some (.iload_n 3, 1, 0, 0, 0, 0, []), 
  some (.ireturn, 1, 0, 0, 0, 0, [])]
set_option maxRecDepth 100000 in
def cd199 : Cd := [some (.aload_n 0, 1, 0, 0, 0, 0, []), some (.iload_n 1, 1, 0, 0, 0, 0, []), some (.invokevirtual 160, 3, 170, 1, 0, 0, [(0, 227)]), none, none, some (.ifCond .eq 15, 3, 20, 0, 0, 0, []), none, none, 
  some (.iload_n 2, 1, 0, 0, 0, 0, []), some (.i2l, 1, 0, 0, 0, 0, []), some (.lconst 0, 1, 0, 0, 0, 0, []), some (.ldc2_w 85, 3, 0, 0, 0, 5, [(0, 0)]), none, none, some (.invokestatic 67, 3, 159, 3, 0, 0, [(0, 194)]), 
  none, none, some (.ifCond .ne 6, 3, 23, 0, 0, 0, []), none, none, some (.ldc 87, 2, 0, 0, -1000000001, 0, [(0, 24)]), none, some (.ireturn, 1, 0, 0, 0, 0, []), some (.aload_n 0, 1, 0, 0, 0, 0, []), 
  some (.getfield 7, 3, 11, 0, 0, 0, [(0, 83)]), none, none, some (.aload_n 0, 1, 0, 0, 0, 0, []), some (.iload_n 1, 1, 0, 0, 0, 0, []), some (.invokevirtual 75, 3, 165, 1, 0, 0, [(0, 203)]), none, none, 
  some (.iaload, 1, 0, 0, 0, 0, []), some (.istore_n 3, 1, 0, 0, 0, 0, []), some (.iload_n 2, 1, 0, 0, 0, 0, []), some (.ifCond .eq 33, 3, 68, 0, 0, 0, []), none, none, some (.iload_n 2, 1, 0, 0, 0, 0, []), 
  some (.iload_n 3, 1, 0, 0, 0, 0, []), some (.if_icmp .eq 28, 3, 68, 0, 0, 0, []), none, none, some (.iload_n 2, 1, 0, 0, 0, 0, []), some (.iconst 3, 1, 0, 0, 3, 0, []), some (.if_icmp .ge 13, 3, 58, 0, 0, 0, []), none, 
  none, some (.iload_n 3, 1, 0, 0, 0, 0, []), some (.iconst 3, 1, 0, 0, 3, 0, []), some (.if_icmp .gt 8, 3, 58, 0, 0, 0, []), none, none, some (.iload_n 3, 1, 0, 0, 0, 0, []), some (.iload_n 2, 1, 0, 0, 0, 0, []), 
  some (.if_icmp .gt 13, 3, 68, 0, 0, 0, []), none, none, some (.iload_n 2, 1, 0, 0, 0, 0, []), some (.iconst 4, 1, 0, 0, 4, 0, []), some (.if_icmp .ne 12, 3, 72, 0, 0, 0, []), none, none, 
  some (.iload_n 3, 1, 0, 0, 0, 0, []), some (.iconst 5, 1, 0, 0, 5, 0, []), some (.if_icmp .ne 7, 3, 72, 0, 0, 0, []), none, none, some (.iconst 1, 1, 0, 0, 1, 0, []), some (.goto 4, 3, 73, 0, 0, 0, []), none, none, 
  some (.iconst 0, 1, 0, 0, 0, 0, []), some (.istore 4, 2, 0, 0, 0, 0, []), none, some (.iload 4, 2, 0, 0, 0, 0, []), none, some (.ifCond .eq 18, 3, 95, 0, 0, 0, []), none, none, some (.aload_n 0, 1, 0, 0, 0, 0, []), 
  some (.getfield 7, 3, 11, 0, 0, 0, [(0, 83)]), none, none, some (.aload_n 0, 1, 0, 0, 0, 0, []), some (.iload_n 1, 1, 0, 0, 0, 0, []), some (.invokevirtual 75, 3, 165, 1, 0, 0, [(0, 203)]), none, none, 
  some (.iconst 2, 1, 0, 0, 2, 0, []), some (.iadd, 1, 0, 0, 0, 0, []), some (.iaload, 1, 0, 0, 0, 0, []), some (.goto 5, 3, 97, 0, 0, 0, []), none, none, some (.ldc 165, 2, 0, 0, -1000000012, 0, [(0, 28)]), none, 
  some (.ireturn, 1, 0, 0, 0, 0, [])]
set_option maxRecDepth 100000 in
def cd200 : Cd := [some (.aload_n 0, 1, 0, 0, 0, 0, []), some (.iload_n 1, 1, 0, 0, 0, 0, []), some (.invokevirtual 160, 3, 170, 1, 0, 0, [(0, 227)]), none, none, some (.ifCond .eq 11, 3, 16, 0, 0, 0, []), none, none, 
  some (.aload_n 0, 1, 0, 0, 0, 0, []), some (.iload_n 2, 1, 0, 0, 0, 0, []), some (.invokevirtual 114, 3, 169, 1, 0, 0, [(0, 208)]), none, none, some (.ifCond .ne 6, 3, 19, 0, 0, 0, []), none, none, 
  some (.ldc 87, 2, 0, 0, -1000000001, 0, [(0, 24)]), none, some (.ireturn, 1, 0, 0, 0, 0, []), some (.aload_n 0, 1, 0, 0, 0, 0, []), some (.iload_n 1, 1, 0, 0, 0, 0, []), 
  some (.invokevirtual 101, 3, 173, 1, 0, 0, [(0, 202)]), none, none, some (.ifCond .ne 6, 3, 30, 0, 0, 0, []), none, none, some (.ldc 165, 2, 0, 0, -1000000012, 0, [(0, 28)]), none, some (.ireturn, 1, 0, 0, 0, 0, []), 
  some (.aload_n 0, 1, 0, 0, 0, 0, []), some (.iload_n 1, 1, 0, 0, 0, 0, []), some (.invokevirtual 75, 3, 165, 1, 0, 0, [(0, 203)]), none, none, some (.istore_n 3, 1, 0, 0, 0, 0, []), some (.aload_n 0, 1, 0, 0, 0, 0, []), 
  some (.aload_n 0, 1, 0, 0, 0, 0, []), some (.getfield 7, 3, 11, 0, 0, 0, [(0, 83)]), none, none, some (.iload_n 3, 1, 0, 0, 0, 0, []), some (.iconst 1, 1, 0, 0, 1, 0, []), some (.iadd, 1, 0, 0, 0, 0, []), 
  some (.iaload, 1, 0, 0, 0, 0, []), some (.invokevirtual 89, 3, 163, 1, 0, 0, [(0, 195)]), none, none, some (.istore 4, 2, 0, 0, 0, 0, []), none, some (.aload_n 0, 1, 0, 0, 0, 0, []), 
  some (.getfield 7, 3, 11, 0, 0, 0, [(0, 83)]), none, none, some (.iload_n 3, 1, 0, 0, 0, 0, []), some (.iaload, 1, 0, 0, 0, 0, []), some (.iconst 1, 1, 0, 0, 1, 0, []), some (.if_icmp .le 30, 3, 87, 0, 0, 0, []), none, 
  none, some (.aload_n 0, 1, 0, 0, 0, 0, []), some (.getfield 7, 3, 11, 0, 0, 0, [(0, 83)]), none, none, some (.aload_n 0, 1, 0, 0, 0, 0, []), some (.iload_n 2, 1, 0, 0, 0, 0, []), 
  some (.invokevirtual 71, 3, 164, 1, 0, 0, [(0, 205)]), none, none, some (.iconst 0, 1, 0, 0, 0, 0, []), some (.iadd, 1, 0, 0, 0, 0, []), some (.iaload, 1, 0, 0, 0, 0, []), some (.aload_n 0, 1, 0, 0, 0, 0, []), 
  some (.getfield 7, 3, 11, 0, 0, 0, [(0, 83)]), none, none, some (.iload_n 3, 1, 0, 0, 0, 0, []), some (.iconst 2, 1, 0, 0, 2, 0, []), some (.iadd, 1, 0, 0, 0, 0, []), some (.iaload, 1, 0, 0, 0, 0, []), 
  some (.if_icmp .le 7, 3, 87, 0, 0, 0, []), none, none, some (.iconst 1, 1, 0, 0, 1, 0, []), some (.goto 4, 3, 88, 0, 0, 0, []), none, none, some (.iconst 0, 1, 0, 0, 0, 0, []), some (.istore 5, 2, 0, 0, 0, 0, []), none, 
  some (.aload_n 0, 1, 0, 0, 0, 0, []), some (.getfield 7, 3, 11, 0, 0, 0, [(0, 83)]), none, none, some (.iload_n 3, 1, 0, 0, 0, 0, []), some (.iconst 4, 1, 0, 0, 4, 0, []), some (.iadd, 1, 0, 0, 0, 0, []), 
  some (.iaload, 1, 0, 0, 0, 0, []), some (.ifCond .ne 58, 3, 156, 0, 0, 0, []), none, none, some (.aload_n 0, 1, 0, 0, 0, 0, []), some (.getfield 7, 3, 11, 0, 0, 0, [(0, 83)]), none, none, 
  some (.aload_n 0, 1, 0, 0, 0, 0, []), some (.iload_n 2, 1, 0, 0, 0, 0, []), some (.invokevirtual 71, 3, 164, 1, 0, 0, [(0, 205)]), none, none, some (.bipush 8, 2, 0, 0, 8, 0, []), none, some (.iadd, 1, 0, 0, 0, 0, []), 
  some (.iaload, 1, 0, 0, 0, 0, []), some (.aload_n 0, 1, 0, 0, 0, 0, []), some (.getfield 7, 3, 11, 0, 0, 0, [(0, 83)]), none, none, some (.iload_n 3, 1, 0, 0, 0, 0, []), some (.iconst 1, 1, 0, 0, 1, 0, []), 
  some (.iadd, 1, 0, 0, 0, 0, []), some (.iaload, 1, 0, 0, 0, 0, []), some (.if_icmp .ne 34, 3, 156, 0, 0, 0, []), none, none, some (.aload_n 0, 1, 0, 0, 0, 0, []), some (.getfield 7, 3, 11, 0, 0, 0, [(0, 83)]), none, none, 
  some (.iload 4, 2, 0, 0, 0, 0, []), none, some (.bipush 7, 2, 0, 0, 7, 0, []), none, some (.iadd, 1, 0, 0, 0, 0, []), some (.iaload, 1, 0, 0, 0, 0, []), some (.iconst 1, 1, 0, 0, 1, 0, []), 
  some (.if_icmp .eq 20, 3, 156, 0, 0, 0, []), none, none, some (.aload_n 0, 1, 0, 0, 0, 0, []), some (.getfield 7, 3, 11, 0, 0, 0, [(0, 83)]), none, none, some (.iload 4, 2, 0, 0, 0, 0, []), none, 
  some (.iconst 4, 1, 0, 0, 4, 0, []), some (.iadd, 1, 0, 0, 0, 0, []), some (.iaload, 1, 0, 0, 0, 0, []), some (.ifCond .gt 8, 3, 156, 0, 0, 0, []), none, none, some (.iload 5, 2, 0, 0, 0, 0, []), none, 
  some (.ifCond .eq 6, 3, 159, 0, 0, 0, []), none, none, some (.ldc 134, 2, 0, 0, -1000000002, 0, [(0, 27)]), none, some (.ireturn, 1, 0, 0, 0, 0, []), some (.aload_n 0, 1, 0, 0, 0, 0, []), 
  some (.getfield 7, 3, 11, 0, 0, 0, [(0, 83)]), none, none, some (.iload_n 3, 1, 0, 0, 0, 0, []), some (.iconst 4, 1, 0, 0, 4, 0, []), some (.iadd, 1, 0, 0, 0, 0, []), some (.iconst 1, 1, 0, 0, 1, 0, []), 
  some (.iastore, 1, 0, 0, 0, 0, []), some (.aload_n 0, 1, 0, 0, 0, 0, []), some (.getfield 7, 3, 11, 0, 0, 0, [(0, 83)]), none, none, some (.iload_n 3, 1, 0, 0, 0, 0, []), some (.iconst 5, 1, 0, 0, 5, 0, []), 
  some (.iadd, 1, 0, 0, 0, 0, []), some (.iload_n 2, 1, 0, 0, 0, 0, []), some (.iastore, 1, 0, 0, 0, 0, []), some (.iconst 0, 1, 0, 0, 0, 0, []), some (.istore 6, 2, 0, 0, 0, 0, []), none, 
  some (.iconst 0, 1, 0, 0, 0, 0, []), some (.istore 7, 2, 0, 0, 0, 0, []), none, some (.iload 7, 2, 0, 0, 0, 0, []), none, some (.aload_n 0, 1, 0, 0, 0, 0, []), some (.getfield 7, 3, 11, 0, 0, 0, [(0, 83)]), none, none, 
  some (.iconst 3, 1, 0, 0, 3, 0, []), some (.iaload, 1, 0, 0, 0, 0, []), some (.if_icmp .ge 53, 3, 244, 0, 0, 0, []), none, none, some (.iload 6, 2, 0, 0, 0, 0, []), none, some (.aload_n 0, 1, 0, 0, 0, 0, []), 
  some (.getfield 7, 3, 11, 0, 0, 0, [(0, 83)]), none, none, some (.aload_n 0, 1, 0, 0, 0, 0, []), some (.iload 7, 2, 0, 0, 0, 0, []), none, some (.invokevirtual 75, 3, 165, 1, 0, 0, [(0, 203)]), none, none, 
  some (.iconst 4, 1, 0, 0, 4, 0, []), some (.iadd, 1, 0, 0, 0, 0, []), some (.iaload, 1, 0, 0, 0, 0, []), some (.iconst 1, 1, 0, 0, 1, 0, []), some (.if_icmp .ne 24, 3, 234, 0, 0, 0, []), none, none, 
  some (.aload_n 0, 1, 0, 0, 0, 0, []), some (.getfield 7, 3, 11, 0, 0, 0, [(0, 83)]), none, none, some (.aload_n 0, 1, 0, 0, 0, 0, []), some (.iload 7, 2, 0, 0, 0, 0, []), none, 
  some (.invokevirtual 75, 3, 165, 1, 0, 0, [(0, 203)]), none, none, some (.iconst 5, 1, 0, 0, 5, 0, []), some (.iadd, 1, 0, 0, 0, 0, []), some (.iaload, 1, 0, 0, 0, 0, []), some (.iload_n 2, 1, 0, 0, 0, 0, []), 
  some (.if_icmp .ne 7, 3, 234, 0, 0, 0, []), none, none, some (.iconst 1, 1, 0, 0, 1, 0, []), some (.goto 4, 3, 235, 0, 0, 0, []), none, none, some (.iconst 0, 1, 0, 0, 0, 0, []), some (.iadd, 1, 0, 0, 0, 0, []), 
  some (.istore 6, 2, 0, 0, 0, 0, []), none, some (.iinc 7 1, 3, 0, 0, 1, 0, []), none, none, some (.goto (-58), 3, 183, 0, 0, 0, []), none, none, some (.iload 6, 2, 0, 0, 0, 0, []), none, 
  some (.ireturn, 1, 0, 0, 0, 0, [])]
set_option maxRecDepth 100000 in
def cd201 : Cd := [some (.aload_n 0, 1, 0, 0, 0, 0, []), some (.iload_n 1, 1, 0, 0, 0, 0, []), some (.invokevirtual 160, 3, 170, 1, 0, 0, [(0, 227)]), none, none, some (.ifCond .ne 6, 3, 11, 0, 0, 0, []), none, none, 
  some (.ldc 87, 2, 0, 0, -1000000001, 0, [(0, 24)]), none, some (.ireturn, 1, 0, 0, 0, 0, []), some (.aload_n 0, 1, 0, 0, 0, 0, []), some (.iload_n 1, 1, 0, 0, 0, 0, []), 
  some (.invokevirtual 101, 3, 173, 1, 0, 0, [(0, 202)]), none, none, some (.ifCond .ne 6, 3, 22, 0, 0, 0, []), none, none, some (.ldc 165, 2, 0, 0, -1000000012, 0, [(0, 28)]), none, some (.ireturn, 1, 0, 0, 0, 0, []), 
  some (.aload_n 0, 1, 0, 0, 0, 0, []), some (.iload_n 1, 1, 0, 0, 0, 0, []), some (.invokevirtual 75, 3, 165, 1, 0, 0, [(0, 203)]), none, none, some (.istore_n 2, 1, 0, 0, 0, 0, []), some (.aload_n 0, 1, 0, 0, 0, 0, []), 
  some (.getfield 7, 3, 11, 0, 0, 0, [(0, 83)]), none, none, some (.iload_n 2, 1, 0, 0, 0, 0, []), some (.iconst 4, 1, 0, 0, 4, 0, []), some (.iadd, 1, 0, 0, 0, 0, []), some (.iaload, 1, 0, 0, 0, 0, []), 
  some (.ifCond .ne 6, 3, 42, 0, 0, 0, []), none, none, some (.ldc 134, 2, 0, 0, -1000000002, 0, [(0, 27)]), none, some (.ireturn, 1, 0, 0, 0, 0, []), some (.aload_n 0, 1, 0, 0, 0, 0, []), 
  some (.getfield 7, 3, 11, 0, 0, 0, [(0, 83)]), none, none, some (.iload_n 2, 1, 0, 0, 0, 0, []), some (.iconst 5, 1, 0, 0, 5, 0, []), some (.iadd, 1, 0, 0, 0, 0, []), some (.iconst (-1), 1, 0, 0, -1, 0, []), 
  some (.iastore, 1, 0, 0, 0, 0, []), some (.aload_n 0, 1, 0, 0, 0, 0, []), some (.iload_n 2, 1, 0, 0, 0, 0, []), some (.iconst 4, 1, 0, 0, 4, 0, []), some (.iadd, 1, 0, 0, 0, 0, []), some (.iconst 0, 1, 0, 0, 0, 0, []), 
  some (.invokevirtual 98, 3, 162, 2, 0, 0, [(0, 198)]), none, none, some (.ireturn, 1, 0, 0, 0, 0, [])]
set_option maxRecDepth 100000 in
def cd202 : Cd := [some (.aload_n 0, 1, 0, 0, 0, 0, []), some (.iload_n 1, 1, 0, 0, 0, 0, []), some (.invokevirtual 92, 3, 168, 1, 0, 0, [(0, 197)]), none, none, some (.ifCond .eq 22, 3, 27, 0, 0, 0, []), none, none, 
  some (.iload_n 2, 1, 0, 0, 0, 0, []), some (.i2l, 1, 0, 0, 0, 0, []), some (.lconst 0, 1, 0, 0, 0, 0, []), some (.lconst 1, 1, 0, 0, 0, 1, []), some (.aload_n 0, 1, 0, 0, 0, 0, []), some (.iload_n 1, 1, 0, 0, 0, 0, []), 
  some (.iconst (-1), 1, 0, 0, -1, 0, []), some (.invokevirtual 106, 3, 179, 2, 0, 0, [(0, 201)]), none, none, some (.lshl, 1, 0, 0, 0, 0, []), some (.lconst 1, 1, 0, 0, 0, 1, []), some (.lsub, 1, 0, 0, 0, 0, []), 
  some (.invokestatic 67, 3, 159, 3, 0, 0, [(0, 194)]), none, none, some (.ifCond .ne 6, 3, 30, 0, 0, 0, []), none, none, some (.ldc 87, 2, 0, 0, -1000000001, 0, [(0, 24)]), none, some (.ireturn, 1, 0, 0, 0, 0, []), 
  some (.iconst 0, 1, 0, 0, 0, 0, []), some (.istore_n 3, 1, 0, 0, 0, 0, []), some (.iconst 0, 1, 0, 0, 0, 0, []), some (.istore 4, 2, 0, 0, 0, 0, []), none, some (.iconst 0, 1, 0, 0, 0, 0, []), 
  some (.istore 5, 2, 0, 0, 0, 0, []), none, some (.iload 5, 2, 0, 0, 0, 0, []), none, some (.aload_n 0, 1, 0, 0, 0, 0, []), some (.getfield 7, 3, 11, 0, 0, 0, [(0, 83)]), none, none, some (.iconst 3, 1, 0, 0, 3, 0, []), 
  some (.iaload, 1, 0, 0, 0, 0, []), some (.if_icmp .ge 179, 3, 225, 0, 0, 0, []), none, none, some (.aload_n 0, 1, 0, 0, 0, 0, []), some (.iload 5, 2, 0, 0, 0, 0, []), none, 
  some (.invokevirtual 75, 3, 165, 1, 0, 0, [(0, 203)]), none, none, some (.istore 6, 2, 0, 0, 0, 0, []), none, some (.aload_n 0, 1, 0, 0, 0, 0, []), some (.iload 5, 2, 0, 0, 0, 0, []), none, 
  some (.invokevirtual 101, 3, 173, 1, 0, 0, [(0, 202)]), none, none, some (.ifCond .eq 156, 3, 219, 0, 0, 0, []), none, none, some (.aload_n 0, 1, 0, 0, 0, 0, []), some (.getfield 7, 3, 11, 0, 0, 0, [(0, 83)]), none, none, 
  some (.iload 6, 2, 0, 0, 0, 0, []), none, some (.iconst 1, 1, 0, 0, 1, 0, []), some (.iadd, 1, 0, 0, 0, 0, []), some (.iaload, 1, 0, 0, 0, 0, []), some (.iload_n 1, 1, 0, 0, 0, 0, []), 
  some (.if_icmp .eq 6, 3, 82, 0, 0, 0, []), none, none, some (.goto 140, 3, 219, 0, 0, 0, []), none, none, some (.iload_n 2, 1, 0, 0, 0, 0, []), some (.iload_n 3, 1, 0, 0, 0, 0, []), some (.ishr, 1, 0, 0, 0, 0, []), 
  some (.iconst 1, 1, 0, 0, 1, 0, []), some (.iand, 1, 0, 0, 0, 0, []), some (.iconst 1, 1, 0, 0, 1, 0, []), some (.if_icmp .ne 7, 3, 95, 0, 0, 0, []), none, none, some (.iconst 1, 1, 0, 0, 1, 0, []), 
  some (.goto 4, 3, 96, 0, 0, 0, []), none, none, some (.iconst 0, 1, 0, 0, 0, 0, []), some (.istore 7, 2, 0, 0, 0, 0, []), none, some (.aload_n 0, 1, 0, 0, 0, 0, []), some (.getfield 7, 3, 11, 0, 0, 0, [(0, 83)]), none, 
  none, some (.iload 6, 2, 0, 0, 0, 0, []), none, some (.iconst 4, 1, 0, 0, 4, 0, []), some (.iadd, 1, 0, 0, 0, 0, []), some (.iaload, 1, 0, 0, 0, 0, []), some (.ifCond .ne 12, 3, 119, 0, 0, 0, []), none, none, 
  some (.iload 7, 2, 0, 0, 0, 0, []), none, some (.ifCond .ne 7, 3, 119, 0, 0, 0, []), none, none, some (.iconst 1, 1, 0, 0, 1, 0, []), some (.goto 4, 3, 120, 0, 0, 0, []), none, none, some (.iconst 0, 1, 0, 0, 0, 0, []), 
  some (.istore 8, 2, 0, 0, 0, 0, []), none, some (.iload 4, 2, 0, 0, 0, 0, []), none, some (.iload 8, 2, 0, 0, 0, 0, []), none, some (.ifCond .ne 21, 3, 147, 0, 0, 0, []), none, none, some (.aload_n 0, 1, 0, 0, 0, 0, []), 
  some (.getfield 7, 3, 11, 0, 0, 0, [(0, 83)]), none, none, some (.iload 6, 2, 0, 0, 0, 0, []), none, some (.iconst 4, 1, 0, 0, 4, 0, []), some (.iadd, 1, 0, 0, 0, 0, []), some (.iaload, 1, 0, 0, 0, 0, []), 
  some (.iconst 1, 1, 0, 0, 1, 0, []), some (.if_icmp .ne 12, 3, 151, 0, 0, 0, []), none, none, some (.iload 7, 2, 0, 0, 0, 0, []), none, some (.ifCond .eq 7, 3, 151, 0, 0, 0, []), none, none, 
  some (.iconst 1, 1, 0, 0, 1, 0, []), some (.goto 4, 3, 152, 0, 0, 0, []), none, none, some (.iconst 0, 1, 0, 0, 0, 0, []), some (.iadd, 1, 0, 0, 0, 0, []), some (.istore 4, 2, 0, 0, 0, 0, []), none, 
  some (.aload_n 0, 1, 0, 0, 0, 0, []), some (.getfield 7, 3, 11, 0, 0, 0, [(0, 83)]), none, none, some (.iload 6, 2, 0, 0, 0, 0, []), none, some (.iconst 4, 1, 0, 0, 4, 0, []), some (.iadd, 1, 0, 0, 0, 0, []), 
  some (.iload 8, 2, 0, 0, 0, 0, []), none, some (.ifCond .eq 21, 3, 186, 0, 0, 0, []), none, none, some (.aload_n 0, 1, 0, 0, 0, 0, []), some (.getfield 7, 3, 11, 0, 0, 0, [(0, 83)]), none, none, 
  some (.iload 6, 2, 0, 0, 0, 0, []), none, some (.bipush 7, 2, 0, 0, 7, 0, []), none, some (.iadd, 1, 0, 0, 0, 0, []), some (.iaload, 1, 0, 0, 0, 0, []), some (.iconst 1, 1, 0, 0, 1, 0, []), 
  some (.if_icmp .ne 7, 3, 186, 0, 0, 0, []), none, none, some (.iconst 2, 1, 0, 0, 2, 0, []), some (.goto 12, 3, 195, 0, 0, 0, []), none, none, some (.aload_n 0, 1, 0, 0, 0, 0, []), 
  some (.getfield 7, 3, 11, 0, 0, 0, [(0, 83)]), none, none, some (.iload 6, 2, 0, 0, 0, 0, []), none, some (.iconst 4, 1, 0, 0, 4, 0, []), some (.iadd, 1, 0, 0, 0, 0, []), some (.iaload, 1, 0, 0, 0, 0, []), 
  some (.iastore, 1, 0, 0, 0, 0, []), some (.aload_n 0, 1, 0, 0, 0, 0, []), some (.getfield 7, 3, 11, 0, 0, 0, [(0, 83)]), none, none, some (.iload 6, 2, 0, 0, 0, 0, []), none, some (.bipush 7, 2, 0, 0, 7, 0, []), none, 
  some (.iadd, 1, 0, 0, 0, 0, []), some (.iload 8, 2, 0, 0, 0, 0, []), none, some (.ifCond .eq 7, 3, 214, 0, 0, 0, []), none, none, some (.iconst 1, 1, 0, 0, 1, 0, []), some (.goto 4, 3, 215, 0, 0, 0, []), none, none, 
  some (.iconst 0, 1, 0, 0, 0, 0, []), some (.iastore, 1, 0, 0, 0, 0, []), some (.iinc 3 1, 3, 0, 0, 1, 0, []), none, none, some (.iinc 5 1, 3, 0, 0, 1, 0, []), none, none, some (.goto (-184), 3, 38, 0, 0, 0, []), none, 
  none, some (.aload_n 0, 1, 0, 0, 0, 0, []), some (.getfield 7, 3, 11, 0, 0, 0, [(0, 83)]), none, none, some (.aload_n 0, 1, 0, 0, 0, 0, []), some (.iload_n 1, 1, 0, 0, 0, 0, []), 
  some (.invokevirtual 89, 3, 163, 1, 0, 0, [(0, 195)]), none, none, some (.bipush 7, 2, 0, 0, 7, 0, []), none, some (.iadd, 1, 0, 0, 0, 0, []), some (.iload 4, 2, 0, 0, 0, 0, []), none, 
  some (.ifCond .le 7, 3, 246, 0, 0, 0, []), none, none, some (.iconst 1, 1, 0, 0, 1, 0, []), some (.goto 4, 3, 247, 0, 0, 0, []), none, none, some (.iconst 0, 1, 0, 0, 0, 0, []), some (.iastore, 1, 0, 0, 0, 0, []), 
  some (.iload 4, 2, 0, 0, 0, 0, []), none, some (.ireturn, 1, 0, 0, 0, 0, [])]
set_option maxRecDepth 100000 in
def cd203 : Cd := [some (.aload_n 0, 1, 0, 0, 0, 0, []), some (.iload_n 1, 1, 0, 0, 0, 0, []), some (.invokevirtual 92, 3, 168, 1, 0, 0, [(0, 197)]), none, none, some (.ifCond .ne 6, 3, 11, 0, 0, 0, []), none, none, 
  some (.ldc 87, 2, 0, 0, -1000000001, 0, [(0, 24)]), none, some (.ireturn, 1, 0, 0, 0, 0, []), some (.iconst 0, 1, 0, 0, 0, 0, []), some (.istore_n 2, 1, 0, 0, 0, 0, []), some (.iconst 0, 1, 0, 0, 0, 0, []), 
  some (.istore_n 3, 1, 0, 0, 0, 0, []), some (.iload_n 3, 1, 0, 0, 0, 0, []), some (.aload_n 0, 1, 0, 0, 0, 0, []), some (.getfield 7, 3, 11, 0, 0, 0, [(0, 83)]), none, none, some (.iconst 3, 1, 0, 0, 3, 0, []), 
  some (.iaload, 1, 0, 0, 0, 0, []), some (.if_icmp .ge 60, 3, 82, 0, 0, 0, []), none, none, some (.aload_n 0, 1, 0, 0, 0, 0, []), some (.iload_n 3, 1, 0, 0, 0, 0, []), some (.invokevirtual 75, 3, 165, 1, 0, 0, [(0, 203)]), 
  none, none, some (.istore 4, 2, 0, 0, 0, 0, []), none, some (.iload_n 2, 1, 0, 0, 0, 0, []), some (.aload_n 0, 1, 0, 0, 0, 0, []), some (.getfield 7, 3, 11, 0, 0, 0, [(0, 83)]), none, none, 
  some (.iload 4, 2, 0, 0, 0, 0, []), none, some (.iconst 1, 1, 0, 0, 1, 0, []), some (.iadd, 1, 0, 0, 0, 0, []), some (.iaload, 1, 0, 0, 0, 0, []), some (.iload_n 1, 1, 0, 0, 0, 0, []), 
  some (.if_icmp .ne 30, 3, 73, 0, 0, 0, []), none, none, some (.aload_n 0, 1, 0, 0, 0, 0, []), some (.getfield 7, 3, 11, 0, 0, 0, [(0, 83)]), none, none, some (.iload 4, 2, 0, 0, 0, 0, []), none, 
  some (.iconst 4, 1, 0, 0, 4, 0, []), some (.iadd, 1, 0, 0, 0, 0, []), some (.iaload, 1, 0, 0, 0, 0, []), some (.iconst 1, 1, 0, 0, 1, 0, []), some (.if_icmp .ne 17, 3, 73, 0, 0, 0, []), none, none, 
  some (.iconst 1, 1, 0, 0, 1, 0, []), some (.aload_n 0, 1, 0, 0, 0, 0, []), some (.getfield 7, 3, 11, 0, 0, 0, [(0, 83)]), none, none, some (.iload 4, 2, 0, 0, 0, 0, []), none, some (.iconst 5, 1, 0, 0, 5, 0, []), 
  some (.iadd, 1, 0, 0, 0, 0, []), some (.iaload, 1, 0, 0, 0, 0, []), some (.ishl, 1, 0, 0, 0, 0, []), some (.goto 4, 3, 74, 0, 0, 0, []), none, none, some (.iconst 0, 1, 0, 0, 0, 0, []), some (.ior, 1, 0, 0, 0, 0, []), 
  some (.istore_n 2, 1, 0, 0, 0, 0, []), some (.iinc 3 1, 3, 0, 0, 1, 0, []), none, none, some (.goto (-64), 3, 15, 0, 0, 0, []), none, none, some (.iload_n 2, 1, 0, 0, 0, 0, []), some (.ireturn, 1, 0, 0, 0, 0, [])]
set_option maxRecDepth 100000 in
def cd204 : Cd := [some (.aload_n 0, 1, 0, 0, 0, 0, []), some (.iload_n 1, 1, 0, 0, 0, 0, []), some (.invokevirtual 160, 3, 170, 1, 0, 0, [(0, 227)]), none, none, some (.ifCond .ne 6, 3, 11, 0, 0, 0, []), none, none, 
  some (.ldc 87, 2, 0, 0, -1000000001, 0, [(0, 24)]), none, some (.ireturn, 1, 0, 0, 0, 0, []), some (.aload_n 0, 1, 0, 0, 0, 0, []), some (.iload_n 1, 1, 0, 0, 0, 0, []), 
  some (.invokevirtual 75, 3, 165, 1, 0, 0, [(0, 203)]), none, none, some (.istore_n 2, 1, 0, 0, 0, 0, []), some (.aload_n 0, 1, 0, 0, 0, 0, []), some (.getfield 7, 3, 11, 0, 0, 0, [(0, 83)]), none, none, 
  some (.iload_n 2, 1, 0, 0, 0, 0, []), some (.iaload, 1, 0, 0, 0, 0, []), some (.iconst 5, 1, 0, 0, 5, 0, []), some (.if_icmp .eq 8, 3, 32, 0, 0, 0, []), none, none, some (.ldc 165, 2, 0, 0, -1000000012, 0, [(0, 28)]), 
  none, some (.goto 42, 3, 71, 0, 0, 0, []), none, none, some (.aload_n 0, 1, 0, 0, 0, 0, []), some (.getfield 7, 3, 11, 0, 0, 0, [(0, 83)]), none, none, some (.iload_n 2, 1, 0, 0, 0, 0, []), 
  some (.bipush 6, 2, 0, 0, 6, 0, []), none, some (.iadd, 1, 0, 0, 0, 0, []), some (.iaload, 1, 0, 0, 0, 0, []), some (.ifCond .ge 12, 3, 53, 0, 0, 0, []), none, none, some (.aload_n 0, 1, 0, 0, 0, 0, []), 
  some (.getfield 7, 3, 11, 0, 0, 0, [(0, 83)]), none, none, some (.iconst 0, 1, 0, 0, 0, 0, []), some (.iaload, 1, 0, 0, 0, 0, []), some (.goto 12, 3, 62, 0, 0, 0, []), none, none, some (.aload_n 0, 1, 0, 0, 0, 0, []), 
  some (.getfield 7, 3, 11, 0, 0, 0, [(0, 83)]), none, none, some (.iload_n 2, 1, 0, 0, 0, 0, []), some (.bipush 6, 2, 0, 0, 6, 0, []), none, some (.iadd, 1, 0, 0, 0, 0, []), some (.iaload, 1, 0, 0, 0, 0, []), 
  some (.aload_n 0, 1, 0, 0, 0, 0, []), some (.getfield 7, 3, 11, 0, 0, 0, [(0, 83)]), none, none, some (.iload_n 2, 1, 0, 0, 0, 0, []), some (.iconst 3, 1, 0, 0, 3, 0, []), some (.iadd, 1, 0, 0, 0, 0, []), 
  some (.iaload, 1, 0, 0, 0, 0, []), some (.isub, 1, 0, 0, 0, 0, []), some (.ireturn, 1, 0, 0, 0, 0, [])]
set_option maxRecDepth 100000 in
def cd205 : Cd := [some (.iconst (-1), 1, 0, 0, -1, 0, []), some (.istore_n 2, 1, 0, 0, 0, 0, []), some (.iconst 0, 1, 0, 0, 0, 0, []), some (.istore_n 3, 1, 0, 0, 0, 0, []), some (.iload_n 3, 1, 0, 0, 0, 0, []), 
  some (.aload_n 0, 1, 0, 0, 0, 0, []), some (.getfield 7, 3, 11, 0, 0, 0, [(0, 83)]), none, none, some (.iconst 3, 1, 0, 0, 3, 0, []), some (.iaload, 1, 0, 0, 0, 0, []), some (.if_icmp .ge 108, 3, 119, 0, 0, 0, []), none, 
  none, some (.aload_n 0, 1, 0, 0, 0, 0, []), some (.iload_n 3, 1, 0, 0, 0, 0, []), some (.invokevirtual 75, 3, 165, 1, 0, 0, [(0, 203)]), none, none, some (.istore 4, 2, 0, 0, 0, 0, []), none, 
  some (.aload_n 0, 1, 0, 0, 0, 0, []), some (.getfield 7, 3, 11, 0, 0, 0, [(0, 83)]), none, none, some (.iload 4, 2, 0, 0, 0, 0, []), none, some (.iaload, 1, 0, 0, 0, 0, []), some (.iconst 5, 1, 0, 0, 5, 0, []), 
  some (.if_icmp .ne 42, 3, 71, 0, 0, 0, []), none, none, some (.aload_n 0, 1, 0, 0, 0, 0, []), some (.getfield 7, 3, 11, 0, 0, 0, [(0, 83)]), none, none, some (.iload 4, 2, 0, 0, 0, 0, []), none, 
  some (.iconst 1, 1, 0, 0, 1, 0, []), some (.iadd, 1, 0, 0, 0, 0, []), some (.iaload, 1, 0, 0, 0, 0, []), some (.iload_n 1, 1, 0, 0, 0, 0, []), some (.if_icmp .ne 29, 3, 71, 0, 0, 0, []), none, none, 
  some (.aload_n 0, 1, 0, 0, 0, 0, []), some (.getfield 7, 3, 11, 0, 0, 0, [(0, 83)]), none, none, some (.iload 4, 2, 0, 0, 0, 0, []), none, some (.bipush 6, 2, 0, 0, 6, 0, []), none, some (.iadd, 1, 0, 0, 0, 0, []), 
  some (.iaload, 1, 0, 0, 0, 0, []), some (.ifCond .ge 16, 3, 71, 0, 0, 0, []), none, none, some (.aload_n 0, 1, 0, 0, 0, 0, []), some (.getfield 38, 3, 11, 12, 12, 0, [(0, 95)]), none, none, 
  some (.iload_n 3, 1, 0, 0, 0, 0, []), some (.baload, 1, 0, 0, 0, 0, []), some (.ifCond .ne 7, 3, 71, 0, 0, 0, []), none, none, some (.iconst 1, 1, 0, 0, 1, 0, []), some (.goto 4, 3, 72, 0, 0, 0, []), none, none, 
  some (.iconst 0, 1, 0, 0, 0, 0, []), some (.istore 5, 2, 0, 0, 0, 0, []), none, some (.iload 5, 2, 0, 0, 0, 0, []), none, some (.ifCond .eq 35, 3, 111, 0, 0, 0, []), none, none, some (.iload_n 2, 1, 0, 0, 0, 0, []), 
  some (.ifCond .lt 27, 3, 107, 0, 0, 0, []), none, none, some (.aload_n 0, 1, 0, 0, 0, 0, []), some (.getfield 7, 3, 11, 0, 0, 0, [(0, 83)]), none, none, some (.iload 4, 2, 0, 0, 0, 0, []), none, 
  some (.iconst 3, 1, 0, 0, 3, 0, []), some (.iadd, 1, 0, 0, 0, 0, []), some (.iaload, 1, 0, 0, 0, 0, []), some (.aload_n 0, 1, 0, 0, 0, 0, []), some (.getfield 7, 3, 11, 0, 0, 0, [(0, 83)]), none, none, 
  some (.aload_n 0, 1, 0, 0, 0, 0, []), some (.iload_n 2, 1, 0, 0, 0, 0, []), some (.invokevirtual 75, 3, 165, 1, 0, 0, [(0, 203)]), none, none, some (.iconst 3, 1, 0, 0, 3, 0, []), some (.iadd, 1, 0, 0, 0, 0, []), 
  some (.iaload, 1, 0, 0, 0, 0, []), some (.if_icmp .ge 7, 3, 111, 0, 0, 0, []), none, none, some (.iload_n 3, 1, 0, 0, 0, 0, []), some (.goto 4, 3, 112, 0, 0, 0, []), none, none, some (.iload_n 2, 1, 0, 0, 0, 0, []), 
  some (.istore_n 2, 1, 0, 0, 0, 0, []), some (.iinc 3 1, 3, 0, 0, 1, 0, []), none, none, some (.goto (-112), 3, 4, 0, 0, 0, []), none, none, some (.iload_n 2, 1, 0, 0, 0, 0, []), some (.ireturn, 1, 0, 0, 0, 0, [])]
set_option maxRecDepth 100000 in
def cd206 : Cd := [some (.aload_n 0, 1, 0, 0, 0, 0, []), some (.iload_n 1, 1, 0, 0, 0, 0, []), some (.invokevirtual 92, 3, 168, 1, 0, 0, [(0, 197)]), none, none, some (.ifCond .ne 6, 3, 11, 0, 0, 0, []), none, none, 
  some (.ldc 87, 2, 0, 0, -1000000001, 0, [(0, 24)]), none, some (.ireturn, 1, 0, 0, 0, 0, []), some (.iconst 0, 1, 0, 0, 0, 0, []), some (.istore_n 2, 1, 0, 0, 0, 0, []), some (.iload_n 2, 1, 0, 0, 0, 0, []), 
  some (.bipush 30, 2, 0, 0, 30, 0, []), none, some (.if_icmp .ge 16, 3, 32, 0, 0, 0, []), none, none, some (.aload_n 0, 1, 0, 0, 0, 0, []), some (.getfield 38, 3, 11, 12, 12, 0, [(0, 95)]), none, none, 
  some (.iload_n 2, 1, 0, 0, 0, 0, []), some (.iconst 0, 1, 0, 0, 0, 0, []), some (.bastore, 1, 0, 0, 0, 0, []), some (.iinc 2 1, 3, 0, 0, 1, 0, []), none, none, some (.goto (-16), 3, 13, 0, 0, 0, []), none, none, 
  some (.iconst 0, 1, 0, 0, 0, 0, []), some (.istore_n 2, 1, 0, 0, 0, 0, []), some (.iload_n 2, 1, 0, 0, 0, 0, []), some (.aload_n 0, 1, 0, 0, 0, 0, []), some (.getfield 7, 3, 11, 0, 0, 0, [(0, 83)]), none, none, 
  some (.iconst 2, 1, 0, 0, 2, 0, []), some (.iaload, 1, 0, 0, 0, 0, []), some (.if_icmp .ge 46, 3, 87, 0, 0, 0, []), none, none, some (.aload_n 0, 1, 0, 0, 0, 0, []), some (.getfield 42, 3, 11, 13, 13, 0, [(0, 96)]), none, 
  none, some (.iload_n 2, 1, 0, 0, 0, 0, []), some (.aload_n 0, 1, 0, 0, 0, 0, []), some (.getfield 7, 3, 11, 0, 0, 0, [(0, 83)]), none, none, some (.aload_n 0, 1, 0, 0, 0, 0, []), some (.iload_n 2, 1, 0, 0, 0, 0, []), 
  some (.invokevirtual 71, 3, 164, 1, 0, 0, [(0, 205)]), none, none, some (.iconst 1, 1, 0, 0, 1, 0, []), some (.iadd, 1, 0, 0, 0, 0, []), some (.iaload, 1, 0, 0, 0, 0, []), some (.iastore, 1, 0, 0, 0, 0, []), 
  some (.aload_n 0, 1, 0, 0, 0, 0, []), some (.getfield 45, 3, 11, 14, 14, 0, [(0, 97)]), none, none, some (.iload_n 2, 1, 0, 0, 0, 0, []), some (.aload_n 0, 1, 0, 0, 0, 0, []), 
  some (.getfield 7, 3, 11, 0, 0, 0, [(0, 83)]), none, none, some (.aload_n 0, 1, 0, 0, 0, 0, []), some (.iload_n 2, 1, 0, 0, 0, 0, []), some (.invokevirtual 71, 3, 164, 1, 0, 0, [(0, 205)]), none, none, 
  some (.bipush 7, 2, 0, 0, 7, 0, []), none, some (.iadd, 1, 0, 0, 0, 0, []), some (.iaload, 1, 0, 0, 0, 0, []), some (.iastore, 1, 0, 0, 0, 0, []), some (.iinc 2 1, 3, 0, 0, 1, 0, []), none, none, 
  some (.goto (-50), 3, 34, 0, 0, 0, []), none, none, some (.aload_n 0, 1, 0, 0, 0, 0, []), some (.getfield 7, 3, 11, 0, 0, 0, [(0, 83)]), none, none, some (.aload_n 0, 1, 0, 0, 0, 0, []), 
  some (.iload_n 1, 1, 0, 0, 0, 0, []), some (.invokevirtual 89, 3, 163, 1, 0, 0, [(0, 195)]), none, none, some (.bipush 6, 2, 0, 0, 6, 0, []), none, some (.iadd, 1, 0, 0, 0, 0, []), some (.iaload, 1, 0, 0, 0, 0, []), 
  some (.istore_n 2, 1, 0, 0, 0, 0, []), some (.ldc 66, 2, 0, 0, -1000000005, 0, [(0, 26)]), none, some (.istore_n 3, 1, 0, 0, 0, 0, []), some (.iconst 0, 1, 0, 0, 0, 0, []), some (.istore 4, 2, 0, 0, 0, 0, []), none, 
  some (.iload 4, 2, 0, 0, 0, 0, []), none, some (.sipush 1000, 3, 0, 0, 1000, 0, []), none, none, some (.if_icmp .ge 238, 3, 350, 0, 0, 0, []), none, none, some (.iload_n 3, 1, 0, 0, 0, 0, []), 
  some (.ldc 66, 2, 0, 0, -1000000005, 0, [(0, 26)]), none, some (.if_icmp .ne 232, 3, 350, 0, 0, 0, []), none, none, some (.iconst 0, 1, 0, 0, 0, 0, []), some (.istore 5, 2, 0, 0, 0, 0, []), none, 
  some (.iload 5, 2, 0, 0, 0, 0, []), none, some (.aload_n 0, 1, 0, 0, 0, 0, []), some (.getfield 7, 3, 11, 0, 0, 0, [(0, 83)]), none, none, some (.iconst 2, 1, 0, 0, 2, 0, []), some (.iaload, 1, 0, 0, 0, 0, []), 
  some (.if_icmp .ge 129, 3, 261, 0, 0, 0, []), none, none, some (.aload_n 0, 1, 0, 0, 0, 0, []), some (.getfield 7, 3, 11, 0, 0, 0, [(0, 83)]), none, none, some (.aload_n 0, 1, 0, 0, 0, 0, []), 
  some (.iload 5, 2, 0, 0, 0, 0, []), none, some (.invokevirtual 71, 3, 164, 1, 0, 0, [(0, 205)]), none, none, some (.bipush 8, 2, 0, 0, 8, 0, []), none, some (.iadd, 1, 0, 0, 0, 0, []), some (.iaload, 1, 0, 0, 0, 0, []), 
  some (.iload_n 1, 1, 0, 0, 0, 0, []), some (.if_icmp .ne 105, 3, 255, 0, 0, 0, []), none, none, some (.iload_n 2, 1, 0, 0, 0, 0, []), some (.aload_n 0, 1, 0, 0, 0, 0, []), some (.getfield 7, 3, 11, 0, 0, 0, [(0, 83)]), 
  none, none, some (.aload_n 0, 1, 0, 0, 0, 0, []), some (.iload_n 1, 1, 0, 0, 0, 0, []), some (.invokevirtual 89, 3, 163, 1, 0, 0, [(0, 195)]), none, none, some (.iconst 3, 1, 0, 0, 3, 0, []), 
  some (.iadd, 1, 0, 0, 0, 0, []), some (.iaload, 1, 0, 0, 0, 0, []), some (.aload_n 0, 1, 0, 0, 0, 0, []), some (.getfield 42, 3, 11, 13, 13, 0, [(0, 96)]), none, none, some (.iload 5, 2, 0, 0, 0, 0, []), none, 
  some (.iaload, 1, 0, 0, 0, 0, []), some (.iadd, 1, 0, 0, 0, 0, []), some (.iadd, 1, 0, 0, 0, 0, []), some (.istore_n 2, 1, 0, 0, 0, 0, []), some (.aload_n 0, 1, 0, 0, 0, 0, []), 
  some (.getfield 45, 3, 11, 14, 14, 0, [(0, 97)]), none, none, some (.iload 5, 2, 0, 0, 0, 0, []), none, some (.dup2, 1, 0, 0, 0, 0, []), some (.iaload, 1, 0, 0, 0, 0, []), some (.iconst 1, 1, 0, 0, 1, 0, []), 
  some (.iadd, 1, 0, 0, 0, 0, []), some (.iastore, 1, 0, 0, 0, 0, []), some (.aload_n 0, 1, 0, 0, 0, 0, []), some (.getfield 42, 3, 11, 13, 13, 0, [(0, 96)]), none, none, some (.iload 5, 2, 0, 0, 0, 0, []), none, 
  some (.dup2, 1, 0, 0, 0, 0, []), some (.iaload, 1, 0, 0, 0, 0, []), some (.aload_n 0, 1, 0, 0, 0, 0, []), some (.getfield 45, 3, 11, 14, 14, 0, [(0, 97)]), none, none, some (.iload 5, 2, 0, 0, 0, 0, []), none, 
  some (.iaload, 1, 0, 0, 0, 0, []), some (.bipush 10, 2, 0, 0, 10, 0, []), none, some (.if_icmp .ne 18, 3, 222, 0, 0, 0, []), none, none, some (.aload_n 0, 1, 0, 0, 0, 0, []), 
  some (.getfield 42, 3, 11, 13, 13, 0, [(0, 96)]), none, none, some (.iload 5, 2, 0, 0, 0, 0, []), none, some (.iaload, 1, 0, 0, 0, 0, []), some (.iconst 3, 1, 0, 0, 3, 0, []), some (.if_icmp .ge 7, 3, 222, 0, 0, 0, []), 
  none, none, some (.iconst 1, 1, 0, 0, 1, 0, []), some (.goto 4, 3, 223, 0, 0, 0, []), none, none, some (.iconst 0, 1, 0, 0, 0, 0, []), some (.iadd, 1, 0, 0, 0, 0, []), some (.iastore, 1, 0, 0, 0, 0, []), 
  some (.aload_n 0, 1, 0, 0, 0, 0, []), some (.getfield 45, 3, 11, 14, 14, 0, [(0, 97)]), none, none, some (.iload 5, 2, 0, 0, 0, 0, []), none, some (.aload_n 0, 1, 0, 0, 0, 0, []), 
  some (.getfield 45, 3, 11, 14, 14, 0, [(0, 97)]), none, none, some (.iload 5, 2, 0, 0, 0, 0, []), none, some (.iaload, 1, 0, 0, 0, 0, []), some (.bipush 10, 2, 0, 0, 10, 0, []), none, 
  some (.if_icmp .ne 7, 3, 247, 0, 0, 0, []), none, none, some (.iconst 0, 1, 0, 0, 0, 0, []), some (.goto 10, 3, 254, 0, 0, 0, []), none, none, some (.aload_n 0, 1, 0, 0, 0, 0, []), 
  some (.getfield 45, 3, 11, 14, 14, 0, [(0, 97)]), none, none, some (.iload 5, 2, 0, 0, 0, 0, []), none, some (.iaload, 1, 0, 0, 0, 0, []), some (.iastore, 1, 0, 0, 0, 0, []), some (.iinc 5 1, 3, 0, 0, 1, 0, []), none, 
  none, some (.goto (-134), 3, 124, 0, 0, 0, []), none, none, some (.aload_n 0, 1, 0, 0, 0, 0, []), some (.iload_n 1, 1, 0, 0, 0, 0, []), some (.invokevirtual 166, 3, 205, 1, 0, 0, [(0, 235)]), none, none, 
  some (.istore 5, 2, 0, 0, 0, 0, []), none, some (.iload 5, 2, 0, 0, 0, 0, []), none, some (.ifCond .lt 54, 3, 324, 0, 0, 0, []), none, none, some (.iload_n 2, 1, 0, 0, 0, 0, []), some (.aload_n 0, 1, 0, 0, 0, 0, []), 
  some (.getfield 7, 3, 11, 0, 0, 0, [(0, 83)]), none, none, some (.aload_n 0, 1, 0, 0, 0, 0, []), some (.iload 5, 2, 0, 0, 0, 0, []), none, some (.invokevirtual 75, 3, 165, 1, 0, 0, [(0, 203)]), none, none, 
  some (.iconst 2, 1, 0, 0, 2, 0, []), some (.iadd, 1, 0, 0, 0, 0, []), some (.iaload, 1, 0, 0, 0, 0, []), some (.if_icmp .lt 37, 3, 324, 0, 0, 0, []), none, none, some (.iload_n 2, 1, 0, 0, 0, 0, []), 
  some (.aload_n 0, 1, 0, 0, 0, 0, []), some (.getfield 7, 3, 11, 0, 0, 0, [(0, 83)]), none, none, some (.aload_n 0, 1, 0, 0, 0, 0, []), some (.iload 5, 2, 0, 0, 0, 0, []), none, 
  some (.invokevirtual 75, 3, 165, 1, 0, 0, [(0, 203)]), none, none, some (.iconst 2, 1, 0, 0, 2, 0, []), some (.iadd, 1, 0, 0, 0, 0, []), some (.iaload, 1, 0, 0, 0, 0, []), some (.isub, 1, 0, 0, 0, 0, []), 
  some (.istore_n 2, 1, 0, 0, 0, 0, []), some (.aload_n 0, 1, 0, 0, 0, 0, []), some (.getfield 38, 3, 11, 12, 12, 0, [(0, 95)]), none, none, some (.iload 5, 2, 0, 0, 0, 0, []), none, some (.iconst 1, 1, 0, 0, 1, 0, []), 
  some (.bastore, 1, 0, 0, 0, 0, []), some (.aload_n 0, 1, 0, 0, 0, 0, []), some (.iload_n 1, 1, 0, 0, 0, 0, []), some (.invokevirtual 166, 3, 205, 1, 0, 0, [(0, 235)]), none, none, some (.istore 5, 2, 0, 0, 0, 0, []), 
  none, some (.goto (-53), 3, 268, 0, 0, 0, []), none, none, some (.iload 5, 2, 0, 0, 0, 0, []), none, some (.ifCond .ge 15, 3, 341, 0, 0, 0, []), none, none, some (.aload_n 0, 1, 0, 0, 0, 0, []), 
  some (.getfield 7, 3, 11, 0, 0, 0, [(0, 83)]), none, none, some (.iconst 0, 1, 0, 0, 0, 0, []), some (.iaload, 1, 0, 0, 0, 0, []), some (.iload 4, 2, 0, 0, 0, 0, []), none, some (.iadd, 1, 0, 0, 0, 0, []), 
  some (.goto 5, 3, 343, 0, 0, 0, []), none, none, some (.ldc 66, 2, 0, 0, -1000000005, 0, [(0, 26)]), none, some (.istore_n 3, 1, 0, 0, 0, 0, []), some (.iinc 4 1, 3, 0, 0, 1, 0, []), none, none, 
  some (.goto (-240), 3, 107, 0, 0, 0, []), none, none, some (.iconst 0, 1, 0, 0, 0, 0, []), some (.istore 4, 2, 0, 0, 0, 0, []), none, some (.iload 4, 2, 0, 0, 0, 0, []), none, some (.bipush 30, 2, 0, 0, 30, 0, []), none, 
  some (.if_icmp .ge 17, 3, 374, 0, 0, 0, []), none, none, some (.aload_n 0, 1, 0, 0, 0, 0, []), some (.getfield 38, 3, 11, 12, 12, 0, [(0, 95)]), none, none, some (.iload 4, 2, 0, 0, 0, 0, []), none, 
  some (.iconst 0, 1, 0, 0, 0, 0, []), some (.bastore, 1, 0, 0, 0, 0, []), some (.iinc 4 1, 3, 0, 0, 1, 0, []), none, none, some (.goto (-18), 3, 353, 0, 0, 0, []), none, none, some (.iload_n 3, 1, 0, 0, 0, 0, []), 
  some (.ireturn, 1, 0, 0, 0, 0, [])]
set_option maxRecDepth 100000 in
def cd207 : Cd := [some (.aload_n 0, 1, 0, 0, 0, 0, []), some (.getfield 169, 3, 11, 16, 16, 0, [(0, 99)]), none, none, some (.bipush 12, 2, 0, 0, 12, 0, []), none, some (.iadd, 1, 0, 0, 0, 0, []), some (.bipush 96, 2, 0, 0, 96, 0, []), 
  none, some (.if_icmp .le 6, 3, 15, 0, 0, 0, []), none, none, some (.ldc 88, 2, 0, 0, -1000000003, 0, [(0, 25)]), none, some (.ireturn, 1, 0, 0, 0, 0, []), some (.iconst 0, 1, 0, 0, 0, 0, []), 
  some (.istore 4, 2, 0, 0, 0, 0, []), none, some (.iload 4, 2, 0, 0, 0, 0, []), none, some (.bipush 12, 2, 0, 0, 12, 0, []), none, some (.if_icmp .ge 69, 3, 91, 0, 0, 0, []), none, none, some (.iload 4, 2, 0, 0, 0, 0, []), 
  none, some (.iconst 4, 1, 0, 0, 4, 0, []), some (.if_icmp .ge 7, 3, 35, 0, 0, 0, []), none, none, some (.iload_n 1, 1, 0, 0, 0, 0, []), some (.goto 15, 3, 47, 0, 0, 0, []), none, none, some (.iload 4, 2, 0, 0, 0, 0, []), 
  none, some (.bipush 8, 2, 0, 0, 8, 0, []), none, some (.if_icmp .ge 7, 3, 46, 0, 0, 0, []), none, none, some (.iload_n 2, 1, 0, 0, 0, 0, []), some (.goto 4, 3, 47, 0, 0, 0, []), none, none, 
  some (.iload_n 3, 1, 0, 0, 0, 0, []), some (.istore 5, 2, 0, 0, 0, 0, []), none, some (.aload_n 0, 1, 0, 0, 0, 0, []), some (.getfield 48, 3, 11, 15, 15, 0, [(0, 98)]), none, none, some (.aload_n 0, 1, 0, 0, 0, 0, []), 
  some (.getfield 169, 3, 11, 16, 16, 0, [(0, 99)]), none, none, some (.iload 5, 2, 0, 0, 0, 0, []), none, some (.bipush 24, 2, 0, 0, 24, 0, []), none, some (.bipush 8, 2, 0, 0, 8, 0, []), none, 
  some (.iload 4, 2, 0, 0, 0, 0, []), none, some (.iconst 4, 1, 0, 0, 4, 0, []), some (.irem, 1, 0, 0, 0, 0, []), some (.imul, 1, 0, 0, 0, 0, []), some (.isub, 1, 0, 0, 0, 0, []), some (.ishr, 1, 0, 0, 0, 0, []), 
  some (.sipush 255, 3, 0, 0, 255, 0, []), none, none, some (.iand, 1, 0, 0, 0, 0, []), some (.iastore, 1, 0, 0, 0, 0, []), some (.aload_n 0, 1, 0, 0, 0, 0, []), some (.dup, 1, 0, 0, 0, 0, []), 
  some (.getfield 169, 3, 11, 16, 16, 0, [(0, 99)]), none, none, some (.iconst 1, 1, 0, 0, 1, 0, []), some (.iadd, 1, 0, 0, 0, 0, []), some (.putfield 169, 3, 11, 16, 16, 0, [(0, 99)]), none, none, 
  some (.iinc 4 1, 3, 0, 0, 1, 0, []), none, none, some (.goto (-70), 3, 18, 0, 0, 0, []), none, none, some (.aload_n 0, 1, 0, 0, 0, 0, []), some (.getfield 169, 3, 11, 16, 16, 0, [(0, 99)]), none, none, 
  some (.ireturn, 1, 0, 0, 0, 0, [])]
set_option maxRecDepth 100000 in
def cd208 : Cd := [some (.iload_n 1, 1, 0, 0, 0, 0, []), some (.i2l, 1, 0, 0, 0, 0, []), some (.lconst 0, 1, 0, 0, 0, 0, []), some (.aload_n 0, 1, 0, 0, 0, 0, []), some (.getfield 169, 3, 11, 16, 16, 0, [(0, 99)]), none, none, 
  some (.i2l, 1, 0, 0, 0, 0, []), some (.invokestatic 67, 3, 159, 3, 0, 0, [(0, 194)]), none, none, some (.ifCond .ne 6, 3, 17, 0, 0, 0, []), none, none, some (.ldc 87, 2, 0, 0, -1000000001, 0, [(0, 24)]), none, 
  some (.ireturn, 1, 0, 0, 0, 0, []), some (.aload_n 0, 1, 0, 0, 0, 0, []), some (.iload_n 1, 1, 0, 0, 0, 0, []), some (.putfield 169, 3, 11, 16, 16, 0, [(0, 99)]), none, none, some (.iload_n 1, 1, 0, 0, 0, 0, []), 
  some (.ireturn, 1, 0, 0, 0, 0, [])]
set_option maxRecDepth 100000 in
def cd209 : Cd := [some (.iload_n 1, 1, 0, 0, 0, 0, []), some (.aload_n 0, 1, 0, 0, 0, 0, []), some (.getfield 169, 3, 11, 16, 16, 0, [(0, 99)]), none, none, some (.if_icmp .ge 26, 3, 31, 0, 0, 0, []), none, none, 
  some (.aload_n 0, 1, 0, 0, 0, 0, []), some (.getfield 48, 3, 11, 15, 15, 0, [(0, 98)]), none, none, some (.iload_n 1, 1, 0, 0, 0, 0, []), some (.iaload, 1, 0, 0, 0, 0, []), some (.i2l, 1, 0, 0, 0, 0, []), 
  some (.ldc2_w 172, 3, 0, 0, 0, 97, [(0, 8)]), none, none, some (.ldc2_w 174, 3, 0, 0, 0, 122, [(0, 9)]), none, none, some (.invokestatic 67, 3, 159, 3, 0, 0, [(0, 194)]), none, none, 
  some (.ifCond .eq 7, 3, 31, 0, 0, 0, []), none, none, some (.iconst 1, 1, 0, 0, 1, 0, []), some (.goto 4, 3, 32, 0, 0, 0, []), none, none, some (.iconst 0, 1, 0, 0, 0, 0, []), some (.ireturn, 1, 0, 0, 0, 0, [])]
set_option maxRecDepth 100000 in
def cd210 : Cd := [some (.iload_n 1, 1, 0, 0, 0, 0, []), some (.aload_n 0, 1, 0, 0, 0, 0, []), some (.getfield 169, 3, 11, 16, 16, 0, [(0, 99)]), none, none, some (.if_icmp .ge 26, 3, 31, 0, 0, 0, []), none, none, 
  some (.aload_n 0, 1, 0, 0, 0, 0, []), some (.getfield 48, 3, 11, 15, 15, 0, [(0, 98)]), none, none, some (.iload_n 1, 1, 0, 0, 0, 0, []), some (.iaload, 1, 0, 0, 0, 0, []), some (.i2l, 1, 0, 0, 0, 0, []), 
  some (.ldc2_w 176, 3, 0, 0, 0, 48, [(0, 10)]), none, none, some (.ldc2_w 178, 3, 0, 0, 0, 57, [(0, 11)]), none, none, some (.invokestatic 67, 3, 159, 3, 0, 0, [(0, 194)]), none, none, 
  some (.ifCond .eq 7, 3, 31, 0, 0, 0, []), none, none, some (.iconst 1, 1, 0, 0, 1, 0, []), some (.goto 4, 3, 32, 0, 0, 0, []), none, none, some (.iconst 0, 1, 0, 0, 0, 0, []), some (.ireturn, 1, 0, 0, 0, 0, [])]
set_option maxRecDepth 100000 in
def cd211 : Cd := [some (.aload_n 0, 1, 0, 0, 0, 0, []), some (.getfield 180, 3, 11, 18, 18, 0, [(0, 101)]), none, none, some (.ifCond .le 23, 3, 27, 0, 0, 0, []), none, none, some (.aload_n 0, 1, 0, 0, 0, 0, []), 
  some (.getfield 183, 3, 11, 19, 19, 0, [(0, 102)]), none, none, some (.iconst 1, 1, 0, 0, 1, 0, []), some (.if_icmp .eq 11, 3, 23, 0, 0, 0, []), none, none, some (.aload_n 0, 1, 0, 0, 0, 0, []), 
  some (.getfield 183, 3, 11, 19, 19, 0, [(0, 102)]), none, none, some (.iconst 2, 1, 0, 0, 2, 0, []), some (.if_icmp .ne 7, 3, 27, 0, 0, 0, []), none, none, some (.iconst 1, 1, 0, 0, 1, 0, []), 
  some (.goto 4, 3, 28, 0, 0, 0, []), none, none, some (.iconst 0, 1, 0, 0, 0, 0, []), some (.istore_n 1, 1, 0, 0, 0, 0, []), some (.aload_n 0, 1, 0, 0, 0, 0, []), some (.getfield 180, 3, 11, 18, 18, 0, [(0, 101)]), none, 
  none, some (.istore_n 2, 1, 0, 0, 0, 0, []), some (.aload_n 0, 1, 0, 0, 0, 0, []), some (.getfield 180, 3, 11, 18, 18, 0, [(0, 101)]), none, none, some (.aload_n 0, 1, 0, 0, 0, 0, []), 
  some (.getfield 169, 3, 11, 16, 16, 0, [(0, 99)]), none, none, some (.if_icmp .ge 30, 3, 72, 0, 0, 0, []), none, none, some (.aload_n 0, 1, 0, 0, 0, 0, []), some (.getfield 48, 3, 11, 15, 15, 0, [(0, 98)]), none, none, 
  some (.aload_n 0, 1, 0, 0, 0, 0, []), some (.getfield 180, 3, 11, 18, 18, 0, [(0, 101)]), none, none, some (.iaload, 1, 0, 0, 0, 0, []), some (.bipush 32, 2, 0, 0, 32, 0, []), none, 
  some (.if_icmp .ne 16, 3, 72, 0, 0, 0, []), none, none, some (.aload_n 0, 1, 0, 0, 0, 0, []), some (.dup, 1, 0, 0, 0, 0, []), some (.getfield 180, 3, 11, 18, 18, 0, [(0, 101)]), none, none, 
  some (.iconst 1, 1, 0, 0, 1, 0, []), some (.iadd, 1, 0, 0, 0, 0, []), some (.putfield 180, 3, 11, 18, 18, 0, [(0, 101)]), none, none, some (.goto (-35), 3, 34, 0, 0, 0, []), none, none, 
  some (.iload_n 1, 1, 0, 0, 0, 0, []), some (.ifCond .eq 15, 3, 88, 0, 0, 0, []), none, none, some (.iload_n 2, 1, 0, 0, 0, 0, []), some (.aload_n 0, 1, 0, 0, 0, 0, []), some (.getfield 180, 3, 11, 18, 18, 0, [(0, 101)]), 
  none, none, some (.if_icmp .ne 7, 3, 88, 0, 0, 0, []), none, none, some (.iconst 1, 1, 0, 0, 1, 0, []), some (.goto 4, 3, 89, 0, 0, 0, []), none, none, some (.iconst 0, 1, 0, 0, 0, 0, []), 
  some (.istore_n 1, 1, 0, 0, 0, 0, []), some (.aload_n 0, 1, 0, 0, 0, 0, []), some (.aload_n 0, 1, 0, 0, 0, 0, []), some (.getfield 180, 3, 11, 18, 18, 0, [(0, 101)]), none, none, 
  some (.putfield 186, 3, 11, 17, 17, 0, [(0, 100)]), none, none, some (.aload_n 0, 1, 0, 0, 0, 0, []), some (.getfield 186, 3, 11, 17, 17, 0, [(0, 100)]), none, none, some (.aload_n 0, 1, 0, 0, 0, 0, []), 
  some (.getfield 169, 3, 11, 16, 16, 0, [(0, 99)]), none, none, some (.if_icmp .ne 11, 3, 117, 0, 0, 0, []), none, none, some (.aload_n 0, 1, 0, 0, 0, 0, []), some (.iconst 0, 1, 0, 0, 0, 0, []), 
  some (.putfield 183, 3, 11, 19, 19, 0, [(0, 102)]), none, none, some (.goto 225, 3, 339, 0, 0, 0, []), none, none, some (.aload_n 0, 1, 0, 0, 0, 0, []), some (.aload_n 0, 1, 0, 0, 0, 0, []), 
  some (.getfield 186, 3, 11, 17, 17, 0, [(0, 100)]), none, none, some (.invokevirtual 189, 3, 209, 1, 0, 0, [(0, 242)]), none, none, some (.ifCond .eq 73, 3, 198, 0, 0, 0, []), none, none, 
  some (.aload_n 0, 1, 0, 0, 0, 0, []), some (.aload_n 0, 1, 0, 0, 0, 0, []), some (.getfield 180, 3, 11, 18, 18, 0, [(0, 101)]), none, none, some (.invokevirtual 189, 3, 209, 1, 0, 0, [(0, 242)]), none, none, 
  some (.ifCond .eq 16, 3, 152, 0, 0, 0, []), none, none, some (.aload_n 0, 1, 0, 0, 0, 0, []), some (.dup, 1, 0, 0, 0, 0, []), some (.getfield 180, 3, 11, 18, 18, 0, [(0, 101)]), none, none, 
  some (.iconst 1, 1, 0, 0, 1, 0, []), some (.iadd, 1, 0, 0, 0, 0, []), some (.putfield 180, 3, 11, 18, 18, 0, [(0, 101)]), none, none, some (.goto (-21), 3, 128, 0, 0, 0, []), none, none, 
  some (.aload_n 0, 1, 0, 0, 0, 0, []), some (.iload_n 1, 1, 0, 0, 0, 0, []), some (.ifCond .eq 7, 3, 161, 0, 0, 0, []), none, none, some (.iconst 4, 1, 0, 0, 4, 0, []), some (.goto 4, 3, 162, 0, 0, 0, []), none, none, 
  some (.iconst 1, 1, 0, 0, 1, 0, []), some (.putfield 183, 3, 11, 19, 19, 0, [(0, 102)]), none, none, some (.aload_n 0, 1, 0, 0, 0, 0, []), some (.aload_n 0, 1, 0, 0, 0, 0, []), 
  some (.getfield 180, 3, 11, 18, 18, 0, [(0, 101)]), none, none, some (.aload_n 0, 1, 0, 0, 0, 0, []), some (.getfield 186, 3, 11, 17, 17, 0, [(0, 100)]), none, none, some (.isub, 1, 0, 0, 0, 0, []), 
  some (.iconst 1, 1, 0, 0, 1, 0, []), some (.if_icmp .ne 15, 3, 191, 0, 0, 0, []), none, none, some (.aload_n 0, 1, 0, 0, 0, 0, []), some (.getfield 48, 3, 11, 15, 15, 0, [(0, 98)]), none, none, 
  some (.aload_n 0, 1, 0, 0, 0, 0, []), some (.getfield 186, 3, 11, 17, 17, 0, [(0, 100)]), none, none, some (.iaload, 1, 0, 0, 0, 0, []), some (.goto 4, 3, 192, 0, 0, 0, []), none, none, 
  some (.iconst 0, 1, 0, 0, 0, 0, []), some (.putfield 192, 3, 11, 21, 21, 0, [(0, 104)]), none, none, some (.goto 144, 3, 339, 0, 0, 0, []), none, none, some (.aload_n 0, 1, 0, 0, 0, 0, []), 
  some (.aload_n 0, 1, 0, 0, 0, 0, []), some (.getfield 186, 3, 11, 17, 17, 0, [(0, 100)]), none, none, some (.invokevirtual 195, 3, 210, 1, 0, 0, [(0, 243)]), none, none, some (.ifCond .eq 105, 3, 311, 0, 0, 0, []), none, 
  none, some (.aload_n 0, 1, 0, 0, 0, 0, []), some (.iconst 0, 1, 0, 0, 0, 0, []), some (.putfield 198, 3, 11, 20, 20, 0, [(0, 103)]), none, none, some (.aload_n 0, 1, 0, 0, 0, 0, []), some (.aload_n 0, 1, 0, 0, 0, 0, []), 
  some (.getfield 180, 3, 11, 18, 18, 0, [(0, 101)]), none, none, some (.invokevirtual 195, 3, 210, 1, 0, 0, [(0, 243)]), none, none, some (.ifCond .eq 60, 3, 282, 0, 0, 0, []), none, none, 
  some (.aload_n 0, 1, 0, 0, 0, 0, []), some (.aload_n 0, 1, 0, 0, 0, 0, []), some (.getfield 180, 3, 11, 18, 18, 0, [(0, 101)]), none, none, some (.aload_n 0, 1, 0, 0, 0, 0, []), 
  some (.getfield 186, 3, 11, 17, 17, 0, [(0, 100)]), none, none, some (.isub, 1, 0, 0, 0, 0, []), some (.iconst 4, 1, 0, 0, 4, 0, []), some (.if_icmp .ge 26, 3, 262, 0, 0, 0, []), none, none, 
  some (.bipush 10, 2, 0, 0, 10, 0, []), none, some (.aload_n 0, 1, 0, 0, 0, 0, []), some (.getfield 198, 3, 11, 20, 20, 0, [(0, 103)]), none, none, some (.imul, 1, 0, 0, 0, 0, []), some (.aload_n 0, 1, 0, 0, 0, 0, []), 
  some (.getfield 48, 3, 11, 15, 15, 0, [(0, 98)]), none, none, some (.aload_n 0, 1, 0, 0, 0, 0, []), some (.getfield 180, 3, 11, 18, 18, 0, [(0, 101)]), none, none, some (.iaload, 1, 0, 0, 0, 0, []), 
  some (.iadd, 1, 0, 0, 0, 0, []), some (.bipush 48, 2, 0, 0, 48, 0, []), none, some (.isub, 1, 0, 0, 0, 0, []), some (.goto 7, 3, 266, 0, 0, 0, []), none, none, some (.aload_n 0, 1, 0, 0, 0, 0, []), 
  some (.getfield 198, 3, 11, 20, 20, 0, [(0, 103)]), none, none, some (.putfield 198, 3, 11, 20, 20, 0, [(0, 103)]), none, none, some (.aload_n 0, 1, 0, 0, 0, 0, []), some (.dup, 1, 0, 0, 0, 0, []), 
  some (.getfield 180, 3, 11, 18, 18, 0, [(0, 101)]), none, none, some (.iconst 1, 1, 0, 0, 1, 0, []), some (.iadd, 1, 0, 0, 0, 0, []), some (.putfield 180, 3, 11, 18, 18, 0, [(0, 101)]), none, none, 
  some (.goto (-65), 3, 214, 0, 0, 0, []), none, none, some (.aload_n 0, 1, 0, 0, 0, 0, []), some (.iload_n 1, 1, 0, 0, 0, 0, []), some (.ifCond .ne 16, 3, 300, 0, 0, 0, []), none, none, 
  some (.aload_n 0, 1, 0, 0, 0, 0, []), some (.getfield 180, 3, 11, 18, 18, 0, [(0, 101)]), none, none, some (.aload_n 0, 1, 0, 0, 0, 0, []), some (.getfield 186, 3, 11, 17, 17, 0, [(0, 100)]), none, none, 
  some (.isub, 1, 0, 0, 0, 0, []), some (.iconst 4, 1, 0, 0, 4, 0, []), some (.if_icmp .le 7, 3, 304, 0, 0, 0, []), none, none, some (.iconst 4, 1, 0, 0, 4, 0, []), some (.goto 4, 3, 305, 0, 0, 0, []), none, none, 
  some (.iconst 2, 1, 0, 0, 2, 0, []), some (.putfield 183, 3, 11, 19, 19, 0, [(0, 102)]), none, none, some (.goto 31, 3, 339, 0, 0, 0, []), none, none, some (.aload_n 0, 1, 0, 0, 0, 0, []), 
  some (.iconst 3, 1, 0, 0, 3, 0, []), some (.putfield 183, 3, 11, 19, 19, 0, [(0, 102)]), none, none, some (.aload_n 0, 1, 0, 0, 0, 0, []), some (.aload_n 0, 1, 0, 0, 0, 0, []), 
  some (.getfield 48, 3, 11, 15, 15, 0, [(0, 98)]), none, none, some (.aload_n 0, 1, 0, 0, 0, 0, []), some (.getfield 186, 3, 11, 17, 17, 0, [(0, 100)]), none, none, some (.iaload, 1, 0, 0, 0, 0, []), 
  some (.putfield 192, 3, 11, 21, 21, 0, [(0, 104)]), none, none, some (.aload_n 0, 1, 0, 0, 0, 0, []), some (.dup, 1, 0, 0, 0, 0, []), some (.getfield 180, 3, 11, 18, 18, 0, [(0, 101)]), none, none, 
  some (.iconst 1, 1, 0, 0, 1, 0, []), some (.iadd, 1, 0, 0, 0, 0, []), some (.putfield 180, 3, 11, 18, 18, 0, [(0, 101)]), none, none, some (.return_, 1, 0, 0, 0, 0, [])]
set_option maxRecDepth 100000 in
def cd212 : Cd := [some (.aload_n 0, 1, 0, 0, 0, 0, []), some (.getfield 183, 3, 11, 19, 19, 0, [(0, 102)]), none, none, some (.iconst 3, 1, 0, 0, 3, 0, []), some (.if_icmp .ne 15, 3, 20, 0, 0, 0, []), none, none, 
  some (.aload_n 0, 1, 0, 0, 0, 0, []), some (.getfield 192, 3, 11, 21, 21, 0, [(0, 104)]), none, none, some (.iload_n 1, 1, 0, 0, 0, 0, []), some (.if_icmp .ne 7, 3, 20, 0, 0, 0, []), none, none, 
  some (.iconst 1, 1, 0, 0, 1, 0, []), some (.goto 4, 3, 21, 0, 0, 0, []), none, none, some (.iconst 0, 1, 0, 0, 0, 0, []), some (.ireturn, 1, 0, 0, 0, 0, [])]
set_option maxRecDepth 100000 in
def cd213 : Cd := [some (.iload 4, 2, 0, 0, 0, 0, []), none, some (.ifCond .ne 7, 3, 9, 0, 0, 0, []), none, none, some (.iconst 3, 1, 0, 0, 3, 0, []), some (.goto 4, 3, 10, 0, 0, 0, []), none, none, some (.iconst 4, 1, 0, 0, 4, 0, []), 
  some (.istore 5, 2, 0, 0, 0, 0, []), none, some (.aload_n 0, 1, 0, 0, 0, 0, []), some (.getfield 183, 3, 11, 19, 19, 0, [(0, 102)]), none, none, some (.iconst 1, 1, 0, 0, 1, 0, []), 
  some (.if_icmp .ne 85, 3, 102, 0, 0, 0, []), none, none, some (.aload_n 0, 1, 0, 0, 0, 0, []), some (.getfield 180, 3, 11, 18, 18, 0, [(0, 101)]), none, none, some (.aload_n 0, 1, 0, 0, 0, 0, []), 
  some (.getfield 186, 3, 11, 17, 17, 0, [(0, 100)]), none, none, some (.isub, 1, 0, 0, 0, 0, []), some (.iload 5, 2, 0, 0, 0, 0, []), none, some (.if_icmp .ne 71, 3, 102, 0, 0, 0, []), none, none, 
  some (.aload_n 0, 1, 0, 0, 0, 0, []), some (.getfield 48, 3, 11, 15, 15, 0, [(0, 98)]), none, none, some (.aload_n 0, 1, 0, 0, 0, 0, []), some (.getfield 186, 3, 11, 17, 17, 0, [(0, 100)]), none, none, 
  some (.iaload, 1, 0, 0, 0, 0, []), some (.iload_n 1, 1, 0, 0, 0, 0, []), some (.if_icmp .ne 58, 3, 102, 0, 0, 0, []), none, none, some (.aload_n 0, 1, 0, 0, 0, 0, []), some (.getfield 48, 3, 11, 15, 15, 0, [(0, 98)]), 
  none, none, some (.aload_n 0, 1, 0, 0, 0, 0, []), some (.getfield 186, 3, 11, 17, 17, 0, [(0, 100)]), none, none, some (.iconst 1, 1, 0, 0, 1, 0, []), some (.iadd, 1, 0, 0, 0, 0, []), some (.iaload, 1, 0, 0, 0, 0, []), 
  some (.iload_n 2, 1, 0, 0, 0, 0, []), some (.if_icmp .ne 43, 3, 102, 0, 0, 0, []), none, none, some (.aload_n 0, 1, 0, 0, 0, 0, []), some (.getfield 48, 3, 11, 15, 15, 0, [(0, 98)]), none, none, 
  some (.aload_n 0, 1, 0, 0, 0, 0, []), some (.getfield 186, 3, 11, 17, 17, 0, [(0, 100)]), none, none, some (.iconst 2, 1, 0, 0, 2, 0, []), some (.iadd, 1, 0, 0, 0, 0, []), some (.iaload, 1, 0, 0, 0, 0, []), 
  some (.iload_n 3, 1, 0, 0, 0, 0, []), some (.if_icmp .ne 28, 3, 102, 0, 0, 0, []), none, none, some (.iload 4, 2, 0, 0, 0, 0, []), none, some (.ifCond .eq 19, 3, 98, 0, 0, 0, []), none, none, 
  some (.aload_n 0, 1, 0, 0, 0, 0, []), some (.getfield 48, 3, 11, 15, 15, 0, [(0, 98)]), none, none, some (.aload_n 0, 1, 0, 0, 0, 0, []), some (.getfield 186, 3, 11, 17, 17, 0, [(0, 100)]), none, none, 
  some (.iconst 3, 1, 0, 0, 3, 0, []), some (.iadd, 1, 0, 0, 0, 0, []), some (.iaload, 1, 0, 0, 0, 0, []), some (.iload 4, 2, 0, 0, 0, 0, []), none, some (.if_icmp .ne 7, 3, 102, 0, 0, 0, []), none, none, 
  some (.iconst 1, 1, 0, 0, 1, 0, []), some (.goto 4, 3, 103, 0, 0, 0, []), none, none, some (.iconst 0, 1, 0, 0, 0, 0, []), some (.ireturn, 1, 0, 0, 0, 0, [])]
set_option maxRecDepth 100000 in
def cd214 : Cd := [some (.iload 6, 2, 0, 0, 0, 0, []), none, some (.ifCond .ne 7, 3, 9, 0, 0, 0, []), none, none, some (.iconst 5, 1, 0, 0, 5, 0, []), some (.goto 5, 3, 11, 0, 0, 0, []), none, none, some (.bipush 6, 2, 0, 0, 6, 0, []), 
  none, some (.istore 7, 2, 0, 0, 0, 0, []), none, some (.aload_n 0, 1, 0, 0, 0, 0, []), some (.getfield 183, 3, 11, 19, 19, 0, [(0, 102)]), none, none, some (.iconst 1, 1, 0, 0, 1, 0, []), 
  some (.if_icmp .ne 117, 3, 135, 0, 0, 0, []), none, none, some (.aload_n 0, 1, 0, 0, 0, 0, []), some (.getfield 180, 3, 11, 18, 18, 0, [(0, 101)]), none, none, some (.aload_n 0, 1, 0, 0, 0, 0, []), 
  some (.getfield 186, 3, 11, 17, 17, 0, [(0, 100)]), none, none, some (.isub, 1, 0, 0, 0, 0, []), some (.iload 7, 2, 0, 0, 0, 0, []), none, some (.if_icmp .ne 103, 3, 135, 0, 0, 0, []), none, none, 
  some (.aload_n 0, 1, 0, 0, 0, 0, []), some (.getfield 48, 3, 11, 15, 15, 0, [(0, 98)]), none, none, some (.aload_n 0, 1, 0, 0, 0, 0, []), some (.getfield 186, 3, 11, 17, 17, 0, [(0, 100)]), none, none, 
  some (.iaload, 1, 0, 0, 0, 0, []), some (.iload_n 1, 1, 0, 0, 0, 0, []), some (.if_icmp .ne 90, 3, 135, 0, 0, 0, []), none, none, some (.aload_n 0, 1, 0, 0, 0, 0, []), some (.getfield 48, 3, 11, 15, 15, 0, [(0, 98)]), 
  none, none, some (.aload_n 0, 1, 0, 0, 0, 0, []), some (.getfield 186, 3, 11, 17, 17, 0, [(0, 100)]), none, none, some (.iconst 1, 1, 0, 0, 1, 0, []), some (.iadd, 1, 0, 0, 0, 0, []), some (.iaload, 1, 0, 0, 0, 0, []), 
  some (.iload_n 2, 1, 0, 0, 0, 0, []), some (.if_icmp .ne 75, 3, 135, 0, 0, 0, []), none, none, some (.aload_n 0, 1, 0, 0, 0, 0, []), some (.getfield 48, 3, 11, 15, 15, 0, [(0, 98)]), none, none, 
  some (.aload_n 0, 1, 0, 0, 0, 0, []), some (.getfield 186, 3, 11, 17, 17, 0, [(0, 100)]), none, none, some (.iconst 2, 1, 0, 0, 2, 0, []), some (.iadd, 1, 0, 0, 0, 0, []), some (.iaload, 1, 0, 0, 0, 0, []), 
  some (.iload_n 3, 1, 0, 0, 0, 0, []), some (.if_icmp .ne 60, 3, 135, 0, 0, 0, []), none, none, some (.aload_n 0, 1, 0, 0, 0, 0, []), some (.getfield 48, 3, 11, 15, 15, 0, [(0, 98)]), none, none, 
  some (.aload_n 0, 1, 0, 0, 0, 0, []), some (.getfield 186, 3, 11, 17, 17, 0, [(0, 100)]), none, none, some (.iconst 3, 1, 0, 0, 3, 0, []), some (.iadd, 1, 0, 0, 0, 0, []), some (.iaload, 1, 0, 0, 0, 0, []), 
  some (.iload 4, 2, 0, 0, 0, 0, []), none, some (.if_icmp .ne 44, 3, 135, 0, 0, 0, []), none, none, some (.aload_n 0, 1, 0, 0, 0, 0, []), some (.getfield 48, 3, 11, 15, 15, 0, [(0, 98)]), none, none, 
  some (.aload_n 0, 1, 0, 0, 0, 0, []), some (.getfield 186, 3, 11, 17, 17, 0, [(0, 100)]), none, none, some (.iconst 4, 1, 0, 0, 4, 0, []), some (.iadd, 1, 0, 0, 0, 0, []), some (.iaload, 1, 0, 0, 0, 0, []), 
  some (.iload 5, 2, 0, 0, 0, 0, []), none, some (.if_icmp .ne 28, 3, 135, 0, 0, 0, []), none, none, some (.iload 6, 2, 0, 0, 0, 0, []), none, some (.ifCond .eq 19, 3, 131, 0, 0, 0, []), none, none, 
  some (.aload_n 0, 1, 0, 0, 0, 0, []), some (.getfield 48, 3, 11, 15, 15, 0, [(0, 98)]), none, none, some (.aload_n 0, 1, 0, 0, 0, 0, []), some (.getfield 186, 3, 11, 17, 17, 0, [(0, 100)]), none, none, 
  some (.iconst 5, 1, 0, 0, 5, 0, []), some (.iadd, 1, 0, 0, 0, 0, []), some (.iaload, 1, 0, 0, 0, 0, []), some (.iload 6, 2, 0, 0, 0, 0, []), none, some (.if_icmp .ne 7, 3, 135, 0, 0, 0, []), none, none, 
  some (.iconst 1, 1, 0, 0, 1, 0, []), some (.goto 4, 3, 136, 0, 0, 0, []), none, none, some (.iconst 0, 1, 0, 0, 0, 0, []), some (.ireturn, 1, 0, 0, 0, 0, [])]
set_option maxRecDepth 100000 in
def cd215 : Cd := [some (.aload_n 0, 1, 0, 0, 0, 0, []), some (.bipush 112, 2, 0, 0, 112, 0, []), none, some (.bipush 97, 2, 0, 0, 97, 0, []), none, some (.bipush 121, 2, 0, 0, 121, 0, []), none, some (.iconst 0, 1, 0, 0, 0, 0, []), 
  some (.invokevirtual 201, 3, 213, 4, 0, 0, [(0, 245)]), none, none, some (.ifCond .eq 7, 3, 18, 0, 0, 0, []), none, none, some (.iconst 0, 1, 0, 0, 0, 0, []), some (.goto 61, 3, 76, 0, 0, 0, []), none, none, 
  some (.aload_n 0, 1, 0, 0, 0, 0, []), some (.bipush 108, 2, 0, 0, 108, 0, []), none, some (.bipush 111, 2, 0, 0, 111, 0, []), none, some (.bipush 115, 2, 0, 0, 115, 0, []), none, some (.bipush 116, 2, 0, 0, 116, 0, []), 
  none, some (.invokevirtual 201, 3, 213, 4, 0, 0, [(0, 245)]), none, none, some (.ifCond .eq 7, 3, 37, 0, 0, 0, []), none, none, some (.iconst 1, 1, 0, 0, 1, 0, []), some (.goto 42, 3, 76, 0, 0, 0, []), none, none, 
  some (.aload_n 0, 1, 0, 0, 0, 0, []), some (.bipush 115, 2, 0, 0, 115, 0, []), none, some (.bipush 97, 2, 0, 0, 97, 0, []), none, some (.bipush 118, 2, 0, 0, 118, 0, []), none, some (.bipush 101, 2, 0, 0, 101, 0, []), 
  none, some (.invokevirtual 201, 3, 213, 4, 0, 0, [(0, 245)]), none, none, some (.ifCond .eq 7, 3, 56, 0, 0, 0, []), none, none, some (.iconst 3, 1, 0, 0, 3, 0, []), some (.goto 23, 3, 76, 0, 0, 0, []), none, none, 
  some (.aload_n 0, 1, 0, 0, 0, 0, []), some (.bipush 100, 2, 0, 0, 100, 0, []), none, some (.bipush 97, 2, 0, 0, 97, 0, []), none, some (.bipush 121, 2, 0, 0, 121, 0, []), none, some (.bipush 115, 2, 0, 0, 115, 0, []), 
  none, some (.invokevirtual 201, 3, 213, 4, 0, 0, [(0, 245)]), none, none, some (.ifCond .eq 7, 3, 75, 0, 0, 0, []), none, none, some (.iconst 5, 1, 0, 0, 5, 0, []), some (.goto 4, 3, 76, 0, 0, 0, []), none, none, 
  some (.iconst (-1), 1, 0, 0, -1, 0, []), some (.istore_n 1, 1, 0, 0, 0, 0, []), some (.aload_n 0, 1, 0, 0, 0, 0, []), some (.bipush 118, 2, 0, 0, 118, 0, []), none, some (.bipush 105, 2, 0, 0, 105, 0, []), none, 
  some (.bipush 99, 2, 0, 0, 99, 0, []), none, some (.bipush 116, 2, 0, 0, 116, 0, []), none, some (.bipush 105, 2, 0, 0, 105, 0, []), none, some (.bipush 109, 2, 0, 0, 109, 0, []), none, 
  some (.invokevirtual 205, 3, 214, 6, 0, 0, [(0, 246)]), none, none, some (.ifCond .eq 7, 3, 100, 0, 0, 0, []), none, none, some (.iconst 2, 1, 0, 0, 2, 0, []), some (.goto 26, 3, 123, 0, 0, 0, []), none, none, 
  some (.aload_n 0, 1, 0, 0, 0, 0, []), some (.bipush 108, 2, 0, 0, 108, 0, []), none, some (.bipush 101, 2, 0, 0, 101, 0, []), none, some (.bipush 97, 2, 0, 0, 97, 0, []), none, some (.bipush 115, 2, 0, 0, 115, 0, []), 
  none, some (.bipush 116, 2, 0, 0, 116, 0, []), none, some (.iconst 0, 1, 0, 0, 0, 0, []), some (.invokevirtual 205, 3, 214, 6, 0, 0, [(0, 246)]), none, none, some (.ifCond .eq 7, 3, 122, 0, 0, 0, []), none, none, 
  some (.iconst 4, 1, 0, 0, 4, 0, []), some (.goto 4, 3, 123, 0, 0, 0, []), none, none, some (.iload_n 1, 1, 0, 0, 0, 0, []), some (.ireturn, 1, 0, 0, 0, 0, [])]
set_option maxRecDepth 100000 in
def cd216 : Cd := [some (.iload_n 0, 1, 0, 0, 0, 0, []), some (.tableswitch 119 0 4 #[35, 59, 71, 89, 107], 35, 120, 0, 0, 0, [(0, 36), (1, 60), (2, 72), (3, 90), (4, 108)]), none, none, none, none, none, none, none, none, none, none, none, 
  none, none, none, none, none, none, none, none, none, none, none, none, none, none, none, none, none, none, none, none, none, none, none, some (.iload_n 1, 1, 0, 0, 0, 0, []), some (.bipush 110, 2, 0, 0, 110, 0, []), 
  none, some (.if_icmp .eq 15, 3, 54, 0, 0, 0, []), none, none, some (.iload_n 1, 1, 0, 0, 0, 0, []), some (.bipush 107, 2, 0, 0, 107, 0, []), none, some (.if_icmp .eq 9, 3, 54, 0, 0, 0, []), none, none, 
  some (.iload_n 1, 1, 0, 0, 0, 0, []), some (.bipush 114, 2, 0, 0, 114, 0, []), none, some (.if_icmp .ne 7, 3, 58, 0, 0, 0, []), none, none, some (.iconst 1, 1, 0, 0, 1, 0, []), some (.goto 4, 3, 59, 0, 0, 0, []), none, 
  none, some (.iconst 0, 1, 0, 0, 0, 0, []), some (.ireturn, 1, 0, 0, 0, 0, []), some (.iload_n 1, 1, 0, 0, 0, 0, []), some (.bipush 107, 2, 0, 0, 107, 0, []), none, some (.if_icmp .ne 7, 3, 70, 0, 0, 0, []), none, none, 
  some (.iconst 1, 1, 0, 0, 1, 0, []), some (.goto 4, 3, 71, 0, 0, 0, []), none, none, some (.iconst 0, 1, 0, 0, 0, 0, []), some (.ireturn, 1, 0, 0, 0, 0, []), some (.iload_n 1, 1, 0, 0, 0, 0, []), 
  some (.bipush 103, 2, 0, 0, 103, 0, []), none, some (.if_icmp .eq 9, 3, 84, 0, 0, 0, []), none, none, some (.iload_n 1, 1, 0, 0, 0, 0, []), some (.bipush 111, 2, 0, 0, 111, 0, []), none, 
  some (.if_icmp .ne 7, 3, 88, 0, 0, 0, []), none, none, some (.iconst 1, 1, 0, 0, 1, 0, []), some (.goto 4, 3, 89, 0, 0, 0, []), none, none, some (.iconst 0, 1, 0, 0, 0, 0, []), some (.ireturn, 1, 0, 0, 0, 0, []), 
  some (.iload_n 1, 1, 0, 0, 0, 0, []), some (.bipush 103, 2, 0, 0, 103, 0, []), none, some (.if_icmp .eq 9, 3, 102, 0, 0, 0, []), none, none, some (.iload_n 1, 1, 0, 0, 0, 0, []), some (.bipush 116, 2, 0, 0, 116, 0, []), 
  none, some (.if_icmp .ne 7, 3, 106, 0, 0, 0, []), none, none, some (.iconst 1, 1, 0, 0, 1, 0, []), some (.goto 4, 3, 107, 0, 0, 0, []), none, none, some (.iconst 0, 1, 0, 0, 0, 0, []), some (.ireturn, 1, 0, 0, 0, 0, []), 
  some (.iload_n 1, 1, 0, 0, 0, 0, []), some (.bipush 103, 2, 0, 0, 103, 0, []), none, some (.if_icmp .ne 7, 3, 118, 0, 0, 0, []), none, none, some (.iconst 1, 1, 0, 0, 1, 0, []), some (.goto 4, 3, 119, 0, 0, 0, []), none, 
  none, some (.iconst 0, 1, 0, 0, 0, 0, []), some (.ireturn, 1, 0, 0, 0, 0, []), some (.iload_n 1, 1, 0, 0, 0, 0, []), some (.bipush 119, 2, 0, 0, 119, 0, []), none, some (.if_icmp .eq 9, 3, 132, 0, 0, 0, []), none, none, 
  some (.iload_n 1, 1, 0, 0, 0, 0, []), some (.bipush 107, 2, 0, 0, 107, 0, []), none, some (.if_icmp .ne 7, 3, 136, 0, 0, 0, []), none, none, some (.iconst 1, 1, 0, 0, 1, 0, []), some (.goto 4, 3, 137, 0, 0, 0, []), none, 
  none, some (.iconst 0, 1, 0, 0, 0, 0, []), some (.ireturn, 1, 0, 0, 0, 0, [])]
set_option maxRecDepth 100000 in
def cd217 : Cd := [some (.aload_n 0, 1, 0, 0, 0, 0, []), some (.getfield 7, 3, 11, 0, 0, 0, [(0, 83)]), none, none, some (.aload_n 0, 1, 0, 0, 0, 0, []), some (.getfield 209, 3, 11, 25, 25, 0, [(0, 108)]), none, none, 
  some (.iconst 2, 1, 0, 0, 2, 0, []), some (.aload_n 0, 1, 0, 0, 0, 0, []), some (.getfield 212, 3, 11, 24, 24, 0, [(0, 107)]), none, none, some (.imul, 1, 0, 0, 0, 0, []), some (.iadd, 1, 0, 0, 0, 0, []), 
  some (.iload_n 1, 1, 0, 0, 0, 0, []), some (.iastore, 1, 0, 0, 0, 0, []), some (.aload_n 0, 1, 0, 0, 0, 0, []), some (.getfield 7, 3, 11, 0, 0, 0, [(0, 83)]), none, none, some (.aload_n 0, 1, 0, 0, 0, 0, []), 
  some (.getfield 209, 3, 11, 25, 25, 0, [(0, 108)]), none, none, some (.iconst 2, 1, 0, 0, 2, 0, []), some (.aload_n 0, 1, 0, 0, 0, 0, []), some (.getfield 212, 3, 11, 24, 24, 0, [(0, 107)]), none, none, 
  some (.imul, 1, 0, 0, 0, 0, []), some (.iadd, 1, 0, 0, 0, 0, []), some (.iconst 1, 1, 0, 0, 1, 0, []), some (.iadd, 1, 0, 0, 0, 0, []), some (.iload_n 2, 1, 0, 0, 0, 0, []), some (.iastore, 1, 0, 0, 0, 0, []), 
  some (.aload_n 0, 1, 0, 0, 0, 0, []), some (.dup, 1, 0, 0, 0, 0, []), some (.getfield 212, 3, 11, 24, 24, 0, [(0, 107)]), none, none, some (.iconst 1, 1, 0, 0, 1, 0, []), some (.iadd, 1, 0, 0, 0, 0, []), 
  some (.putfield 212, 3, 11, 24, 24, 0, [(0, 107)]), none, none, some (.return_, 1, 0, 0, 0, 0, [])]
set_option maxRecDepth 100000 in
def cd218 : Cd := [some (.aload_n 0, 1, 0, 0, 0, 0, []), some (.iload_n 1, 1, 0, 0, 0, 0, []), some (.invokevirtual 215, 3, 219, 1, 0, 0, [(0, 248)]), none, none, some (.ifCond .ne 5, 3, 10, 0, 0, 0, []), none, none, 
  some (.iconst 0, 1, 0, 0, 0, 0, []), some (.ireturn, 1, 0, 0, 0, 0, []), some (.aload_n 0, 1, 0, 0, 0, 0, []), some (.bipush 124, 2, 0, 0, 124, 0, []), none, some (.invokevirtual 218, 3, 212, 1, 0, 0, [(0, 255)]), none, 
  none, some (.ifCond .eq 27, 3, 43, 0, 0, 0, []), none, none, some (.aload_n 0, 1, 0, 0, 0, 0, []), some (.invokevirtual 221, 3, 211, 0, 0, 0, [(0, 241)]), none, none, some (.aload_n 0, 1, 0, 0, 0, 0, []), 
  some (.iload_n 1, 1, 0, 0, 0, 0, []), some (.invokevirtual 215, 3, 219, 1, 0, 0, [(0, 248)]), none, none, some (.ifCond .ne 5, 3, 33, 0, 0, 0, []), none, none, some (.iconst 0, 1, 0, 0, 0, 0, []), 
  some (.ireturn, 1, 0, 0, 0, 0, []), some (.aload_n 0, 1, 0, 0, 0, 0, []), some (.iconst 2, 1, 0, 0, 2, 0, []), some (.bipush 124, 2, 0, 0, 124, 0, []), none, some (.invokevirtual 224, 3, 217, 2, 0, 0, [(0, 253)]), none, 
  none, some (.goto (-30), 3, 10, 0, 0, 0, []), none, none, some (.iconst 1, 1, 0, 0, 1, 0, []), some (.ireturn, 1, 0, 0, 0, 0, [])]
set_option maxRecDepth 100000 in
def cd219 : Cd := [some (.aload_n 0, 1, 0, 0, 0, 0, []), some (.iload_n 1, 1, 0, 0, 0, 0, []), some (.invokevirtual 227, 3, 220, 1, 0, 0, [(0, 249)]), none, none, some (.ifCond .ne 5, 3, 10, 0, 0, 0, []), none, none, 
  some (.iconst 0, 1, 0, 0, 0, 0, []), some (.ireturn, 1, 0, 0, 0, 0, []), some (.aload_n 0, 1, 0, 0, 0, 0, []), some (.bipush 38, 2, 0, 0, 38, 0, []), none, some (.invokevirtual 218, 3, 212, 1, 0, 0, [(0, 255)]), none, 
  none, some (.ifCond .eq 27, 3, 43, 0, 0, 0, []), none, none, some (.aload_n 0, 1, 0, 0, 0, 0, []), some (.invokevirtual 221, 3, 211, 0, 0, 0, [(0, 241)]), none, none, some (.aload_n 0, 1, 0, 0, 0, 0, []), 
  some (.iload_n 1, 1, 0, 0, 0, 0, []), some (.invokevirtual 227, 3, 220, 1, 0, 0, [(0, 249)]), none, none, some (.ifCond .ne 5, 3, 33, 0, 0, 0, []), none, none, some (.iconst 0, 1, 0, 0, 0, 0, []), 
  some (.ireturn, 1, 0, 0, 0, 0, []), some (.aload_n 0, 1, 0, 0, 0, 0, []), some (.iconst 2, 1, 0, 0, 2, 0, []), some (.bipush 38, 2, 0, 0, 38, 0, []), none, some (.invokevirtual 224, 3, 217, 2, 0, 0, [(0, 253)]), none, 
  none, some (.goto (-30), 3, 10, 0, 0, 0, []), none, none, some (.iconst 1, 1, 0, 0, 1, 0, []), some (.ireturn, 1, 0, 0, 0, 0, [])]
set_option maxRecDepth 100000 in
def cd220 : Cd := [some (.aload_n 0, 1, 0, 0, 0, 0, []), some (.iload_n 1, 1, 0, 0, 0, 0, []), some (.invokevirtual 230, 3, 221, 1, 0, 0, [(0, 250)]), none, none, some (.ifCond .ne 5, 3, 10, 0, 0, 0, []), none, none, 
  some (.iconst 0, 1, 0, 0, 0, 0, []), some (.ireturn, 1, 0, 0, 0, 0, []), some (.aload_n 0, 1, 0, 0, 0, 0, []), some (.bipush 60, 2, 0, 0, 60, 0, []), none, some (.invokevirtual 218, 3, 212, 1, 0, 0, [(0, 255)]), none, 
  none, some (.ifCond .ne 21, 3, 37, 0, 0, 0, []), none, none, some (.aload_n 0, 1, 0, 0, 0, 0, []), some (.bipush 61, 2, 0, 0, 61, 0, []), none, some (.invokevirtual 218, 3, 212, 1, 0, 0, [(0, 255)]), none, none, 
  some (.ifCond .ne 12, 3, 37, 0, 0, 0, []), none, none, some (.aload_n 0, 1, 0, 0, 0, 0, []), some (.bipush 62, 2, 0, 0, 62, 0, []), none, some (.invokevirtual 218, 3, 212, 1, 0, 0, [(0, 255)]), none, none, 
  some (.ifCond .eq 28, 3, 62, 0, 0, 0, []), none, none, some (.aload_n 0, 1, 0, 0, 0, 0, []), some (.getfield 192, 3, 11, 21, 21, 0, [(0, 104)]), none, none, some (.istore_n 2, 1, 0, 0, 0, 0, []), 
  some (.aload_n 0, 1, 0, 0, 0, 0, []), some (.invokevirtual 221, 3, 211, 0, 0, 0, [(0, 241)]), none, none, some (.aload_n 0, 1, 0, 0, 0, 0, []), some (.iload_n 1, 1, 0, 0, 0, 0, []), 
  some (.invokevirtual 230, 3, 221, 1, 0, 0, [(0, 250)]), none, none, some (.ifCond .ne 5, 3, 56, 0, 0, 0, []), none, none, some (.iconst 0, 1, 0, 0, 0, 0, []), some (.ireturn, 1, 0, 0, 0, 0, []), 
  some (.aload_n 0, 1, 0, 0, 0, 0, []), some (.iconst 2, 1, 0, 0, 2, 0, []), some (.iload_n 2, 1, 0, 0, 0, 0, []), some (.invokevirtual 224, 3, 217, 2, 0, 0, [(0, 253)]), none, none, some (.iconst 1, 1, 0, 0, 1, 0, []), 
  some (.ireturn, 1, 0, 0, 0, 0, [])]
set_option maxRecDepth 100000 in
def cd221 : Cd := [some (.aload_n 0, 1, 0, 0, 0, 0, []), some (.iload_n 1, 1, 0, 0, 0, 0, []), some (.invokevirtual 233, 3, 222, 1, 0, 0, [(0, 251)]), none, none, some (.ifCond .ne 5, 3, 10, 0, 0, 0, []), none, none, 
  some (.iconst 0, 1, 0, 0, 0, 0, []), some (.ireturn, 1, 0, 0, 0, 0, []), some (.aload_n 0, 1, 0, 0, 0, 0, []), some (.bipush 43, 2, 0, 0, 43, 0, []), none, some (.invokevirtual 218, 3, 212, 1, 0, 0, [(0, 255)]), none, 
  none, some (.ifCond .ne 12, 3, 28, 0, 0, 0, []), none, none, some (.aload_n 0, 1, 0, 0, 0, 0, []), some (.bipush 45, 2, 0, 0, 45, 0, []), none, some (.invokevirtual 218, 3, 212, 1, 0, 0, [(0, 255)]), none, none, 
  some (.ifCond .eq 31, 3, 56, 0, 0, 0, []), none, none, some (.aload_n 0, 1, 0, 0, 0, 0, []), some (.getfield 192, 3, 11, 21, 21, 0, [(0, 104)]), none, none, some (.istore_n 2, 1, 0, 0, 0, 0, []), 
  some (.aload_n 0, 1, 0, 0, 0, 0, []), some (.invokevirtual 221, 3, 211, 0, 0, 0, [(0, 241)]), none, none, some (.aload_n 0, 1, 0, 0, 0, 0, []), some (.iload_n 1, 1, 0, 0, 0, 0, []), 
  some (.invokevirtual 233, 3, 222, 1, 0, 0, [(0, 251)]), none, none, some (.ifCond .ne 5, 3, 47, 0, 0, 0, []), none, none, some (.iconst 0, 1, 0, 0, 0, 0, []), some (.ireturn, 1, 0, 0, 0, 0, []), 
  some (.aload_n 0, 1, 0, 0, 0, 0, []), some (.iconst 2, 1, 0, 0, 2, 0, []), some (.iload_n 2, 1, 0, 0, 0, 0, []), some (.invokevirtual 224, 3, 217, 2, 0, 0, [(0, 253)]), none, none, some (.goto (-43), 3, 10, 0, 0, 0, []), 
  none, none, some (.iconst 1, 1, 0, 0, 1, 0, []), some (.ireturn, 1, 0, 0, 0, 0, [])]
set_option maxRecDepth 100000 in
def cd222 : Cd := [some (.aload_n 0, 1, 0, 0, 0, 0, []), some (.iload_n 1, 1, 0, 0, 0, 0, []), some (.invokevirtual 236, 3, 223, 1, 0, 0, [(0, 252)]), none, none, some (.ifCond .ne 5, 3, 10, 0, 0, 0, []), none, none, 
  some (.iconst 0, 1, 0, 0, 0, 0, []), some (.ireturn, 1, 0, 0, 0, 0, []), some (.aload_n 0, 1, 0, 0, 0, 0, []), some (.bipush 42, 2, 0, 0, 42, 0, []), none, some (.invokevirtual 218, 3, 212, 1, 0, 0, [(0, 255)]), none, 
  none, some (.ifCond .ne 12, 3, 28, 0, 0, 0, []), none, none, some (.aload_n 0, 1, 0, 0, 0, 0, []), some (.bipush 47, 2, 0, 0, 47, 0, []), none, some (.invokevirtual 218, 3, 212, 1, 0, 0, [(0, 255)]), none, none, 
  some (.ifCond .eq 31, 3, 56, 0, 0, 0, []), none, none, some (.aload_n 0, 1, 0, 0, 0, 0, []), some (.getfield 192, 3, 11, 21, 21, 0, [(0, 104)]), none, none, some (.istore_n 2, 1, 0, 0, 0, 0, []), 
  some (.aload_n 0, 1, 0, 0, 0, 0, []), some (.invokevirtual 221, 3, 211, 0, 0, 0, [(0, 241)]), none, none, some (.aload_n 0, 1, 0, 0, 0, 0, []), some (.iload_n 1, 1, 0, 0, 0, 0, []), 
  some (.invokevirtual 236, 3, 223, 1, 0, 0, [(0, 252)]), none, none, some (.ifCond .ne 5, 3, 47, 0, 0, 0, []), none, none, some (.iconst 0, 1, 0, 0, 0, 0, []), some (.ireturn, 1, 0, 0, 0, 0, []), 
  some (.aload_n 0, 1, 0, 0, 0, 0, []), some (.iconst 2, 1, 0, 0, 2, 0, []), some (.iload_n 2, 1, 0, 0, 0, 0, []), some (.invokevirtual 224, 3, 217, 2, 0, 0, [(0, 253)]), none, none, some (.goto (-43), 3, 10, 0, 0, 0, []), 
  none, none, some (.iconst 1, 1, 0, 0, 1, 0, []), some (.ireturn, 1, 0, 0, 0, 0, [])]
set_option maxRecDepth 100000 in
def cd223 : Cd := [some (.aload_n 0, 1, 0, 0, 0, 0, []), some (.getfield 183, 3, 11, 19, 19, 0, [(0, 102)]), none, none, some (.iconst 2, 1, 0, 0, 2, 0, []), some (.if_icmp .ne 28, 3, 33, 0, 0, 0, []), none, none, 
  some (.aload_n 0, 1, 0, 0, 0, 0, []), some (.iconst 0, 1, 0, 0, 0, 0, []), some (.aload_n 0, 1, 0, 0, 0, 0, []), some (.getfield 198, 3, 11, 20, 20, 0, [(0, 103)]), none, none, 
  some (.invokevirtual 224, 3, 217, 2, 0, 0, [(0, 253)]), none, none, some (.aload_n 0, 1, 0, 0, 0, 0, []), some (.dup, 1, 0, 0, 0, 0, []), some (.getfield 239, 3, 11, 26, 26, 0, [(0, 109)]), none, none, 
  some (.iconst 1, 1, 0, 0, 1, 0, []), some (.iadd, 1, 0, 0, 0, 0, []), some (.putfield 239, 3, 11, 26, 26, 0, [(0, 109)]), none, none, some (.aload_n 0, 1, 0, 0, 0, 0, []), 
  some (.invokevirtual 221, 3, 211, 0, 0, 0, [(0, 241)]), none, none, some (.iconst 1, 1, 0, 0, 1, 0, []), some (.ireturn, 1, 0, 0, 0, 0, []), some (.aload_n 0, 1, 0, 0, 0, 0, []), 
  some (.getfield 183, 3, 11, 19, 19, 0, [(0, 102)]), none, none, some (.iconst 1, 1, 0, 0, 1, 0, []), some (.if_icmp .ne 46, 3, 84, 0, 0, 0, []), none, none, some (.aload_n 0, 1, 0, 0, 0, 0, []), 
  some (.getfield 192, 3, 11, 21, 21, 0, [(0, 104)]), none, none, some (.ifCond .eq 39, 3, 84, 0, 0, 0, []), none, none, some (.iload_n 1, 1, 0, 0, 0, 0, []), some (.aload_n 0, 1, 0, 0, 0, 0, []), 
  some (.getfield 192, 3, 11, 21, 21, 0, [(0, 104)]), none, none, some (.invokestatic 242, 3, 216, 2, 0, 0, [(0, 254)]), none, none, some (.ifCond .eq 28, 3, 84, 0, 0, 0, []), none, none, 
  some (.aload_n 0, 1, 0, 0, 0, 0, []), some (.iconst 1, 1, 0, 0, 1, 0, []), some (.aload_n 0, 1, 0, 0, 0, 0, []), some (.getfield 192, 3, 11, 21, 21, 0, [(0, 104)]), none, none, 
  some (.invokevirtual 224, 3, 217, 2, 0, 0, [(0, 253)]), none, none, some (.aload_n 0, 1, 0, 0, 0, 0, []), some (.dup, 1, 0, 0, 0, 0, []), some (.getfield 239, 3, 11, 26, 26, 0, [(0, 109)]), none, none, 
  some (.iconst 1, 1, 0, 0, 1, 0, []), some (.iadd, 1, 0, 0, 0, 0, []), some (.putfield 239, 3, 11, 26, 26, 0, [(0, 109)]), none, none, some (.aload_n 0, 1, 0, 0, 0, 0, []), 
  some (.invokevirtual 221, 3, 211, 0, 0, 0, [(0, 241)]), none, none, some (.iconst 1, 1, 0, 0, 1, 0, []), some (.ireturn, 1, 0, 0, 0, 0, []), some (.aload_n 0, 1, 0, 0, 0, 0, []), some (.bipush 33, 2, 0, 0, 33, 0, []), 
  none, some (.invokevirtual 218, 3, 212, 1, 0, 0, [(0, 255)]), none, none, some (.ifCond .eq 55, 3, 145, 0, 0, 0, []), none, none, some (.aload_n 0, 1, 0, 0, 0, 0, []), some (.getfield 245, 3, 11, 23, 23, 0, [(0, 106)]), 
  none, none, some (.bipush 8, 2, 0, 0, 8, 0, []), none, some (.if_icmp .ge 46, 3, 145, 0, 0, 0, []), none, none, some (.aload_n 0, 1, 0, 0, 0, 0, []), some (.dup, 1, 0, 0, 0, 0, []), 
  some (.getfield 245, 3, 11, 23, 23, 0, [(0, 106)]), none, none, some (.iconst 1, 1, 0, 0, 1, 0, []), some (.iadd, 1, 0, 0, 0, 0, []), some (.putfield 245, 3, 11, 23, 23, 0, [(0, 106)]), none, none, 
  some (.aload_n 0, 1, 0, 0, 0, 0, []), some (.invokevirtual 221, 3, 211, 0, 0, 0, [(0, 241)]), none, none, some (.aload_n 0, 1, 0, 0, 0, 0, []), some (.iload_n 1, 1, 0, 0, 0, 0, []), 
  some (.invokevirtual 236, 3, 223, 1, 0, 0, [(0, 252)]), none, none, some (.ifCond .ne 5, 3, 126, 0, 0, 0, []), none, none, some (.iconst 0, 1, 0, 0, 0, 0, []), some (.ireturn, 1, 0, 0, 0, 0, []), 
  some (.aload_n 0, 1, 0, 0, 0, 0, []), some (.dup, 1, 0, 0, 0, 0, []), some (.getfield 245, 3, 11, 23, 23, 0, [(0, 106)]), none, none, some (.iconst 1, 1, 0, 0, 1, 0, []), some (.isub, 1, 0, 0, 0, 0, []), 
  some (.putfield 245, 3, 11, 23, 23, 0, [(0, 106)]), none, none, some (.aload_n 0, 1, 0, 0, 0, 0, []), some (.iconst 2, 1, 0, 0, 2, 0, []), some (.bipush 33, 2, 0, 0, 33, 0, []), none, 
  some (.invokevirtual 224, 3, 217, 2, 0, 0, [(0, 253)]), none, none, some (.iconst 1, 1, 0, 0, 1, 0, []), some (.ireturn, 1, 0, 0, 0, 0, []), some (.aload_n 0, 1, 0, 0, 0, 0, []), some (.bipush 40, 2, 0, 0, 40, 0, []), 
  none, some (.invokevirtual 218, 3, 212, 1, 0, 0, [(0, 255)]), none, none, some (.ifCond .eq 12, 3, 163, 0, 0, 0, []), none, none, some (.aload_n 0, 1, 0, 0, 0, 0, []), some (.getfield 248, 3, 11, 22, 22, 0, [(0, 105)]), 
  none, none, some (.bipush 8, 2, 0, 0, 8, 0, []), none, some (.if_icmp .ne 5, 3, 165, 0, 0, 0, []), none, none, some (.iconst 0, 1, 0, 0, 0, 0, []), some (.ireturn, 1, 0, 0, 0, 0, []), some (.aload_n 0, 1, 0, 0, 0, 0, []), 
  some (.dup, 1, 0, 0, 0, 0, []), some (.getfield 248, 3, 11, 22, 22, 0, [(0, 105)]), none, none, some (.iconst 1, 1, 0, 0, 1, 0, []), some (.iadd, 1, 0, 0, 0, 0, []), some (.putfield 248, 3, 11, 22, 22, 0, [(0, 105)]), 
  none, none, some (.aload_n 0, 1, 0, 0, 0, 0, []), some (.invokevirtual 221, 3, 211, 0, 0, 0, [(0, 241)]), none, none, some (.aload_n 0, 1, 0, 0, 0, 0, []), some (.iload_n 1, 1, 0, 0, 0, 0, []), 
  some (.invokevirtual 251, 3, 218, 1, 0, 0, [(0, 247)]), none, none, some (.ifCond .eq 12, 3, 196, 0, 0, 0, []), none, none, some (.aload_n 0, 1, 0, 0, 0, 0, []), some (.bipush 41, 2, 0, 0, 41, 0, []), none, 
  some (.invokevirtual 218, 3, 212, 1, 0, 0, [(0, 255)]), none, none, some (.ifCond .ne 5, 3, 198, 0, 0, 0, []), none, none, some (.iconst 0, 1, 0, 0, 0, 0, []), some (.ireturn, 1, 0, 0, 0, 0, []), 
  some (.aload_n 0, 1, 0, 0, 0, 0, []), some (.dup, 1, 0, 0, 0, 0, []), some (.getfield 248, 3, 11, 22, 22, 0, [(0, 105)]), none, none, some (.iconst 1, 1, 0, 0, 1, 0, []), some (.isub, 1, 0, 0, 0, 0, []), 
  some (.putfield 248, 3, 11, 22, 22, 0, [(0, 105)]), none, none, some (.aload_n 0, 1, 0, 0, 0, 0, []), some (.invokevirtual 221, 3, 211, 0, 0, 0, [(0, 241)]), none, none, some (.iconst 1, 1, 0, 0, 1, 0, []), 
  some (.ireturn, 1, 0, 0, 0, 0, [])]
set_option maxRecDepth 100000 in
def cd224 : Cd := [some (.aload_n 0, 1, 0, 0, 0, 0, []), some (.iconst 0, 1, 0, 0, 0, 0, []), some (.putfield 180, 3, 11, 18, 18, 0, [(0, 101)]), none, none, some (.aload_n 0, 1, 0, 0, 0, 0, []), some (.iconst 3, 1, 0, 0, 3, 0, []), 
  some (.putfield 183, 3, 11, 19, 19, 0, [(0, 102)]), none, none, some (.aload_n 0, 1, 0, 0, 0, 0, []), some (.iconst 0, 1, 0, 0, 0, 0, []), some (.putfield 248, 3, 11, 22, 22, 0, [(0, 105)]), none, none, 
  some (.aload_n 0, 1, 0, 0, 0, 0, []), some (.iconst 0, 1, 0, 0, 0, 0, []), some (.putfield 245, 3, 11, 23, 23, 0, [(0, 106)]), none, none, some (.aload_n 0, 1, 0, 0, 0, 0, []), some (.iconst 0, 1, 0, 0, 0, 0, []), 
  some (.putfield 212, 3, 11, 24, 24, 0, [(0, 107)]), none, none, some (.aload_n 0, 1, 0, 0, 0, 0, []), some (.iconst 0, 1, 0, 0, 0, 0, []), some (.putfield 239, 3, 11, 26, 26, 0, [(0, 109)]), none, none, 
  some (.aload_n 0, 1, 0, 0, 0, 0, []), some (.aload_n 0, 1, 0, 0, 0, 0, []), some (.getfield 7, 3, 11, 0, 0, 0, [(0, 83)]), none, none, some (.iconst 4, 1, 0, 0, 4, 0, []), some (.iaload, 1, 0, 0, 0, 0, []), 
  some (.bipush 12, 2, 0, 0, 12, 0, []), none, some (.if_icmp .ge 18, 3, 57, 0, 0, 0, []), none, none, some (.aload_n 0, 1, 0, 0, 0, 0, []), some (.aload_n 0, 1, 0, 0, 0, 0, []), 
  some (.getfield 7, 3, 11, 0, 0, 0, [(0, 83)]), none, none, some (.iconst 4, 1, 0, 0, 4, 0, []), some (.iaload, 1, 0, 0, 0, 0, []), some (.invokevirtual 254, 3, 166, 1, 0, 0, [(0, 240)]), none, none, 
  some (.iconst 4, 1, 0, 0, 4, 0, []), some (.iadd, 1, 0, 0, 0, 0, []), some (.goto 6, 3, 60, 0, 0, 0, []), none, none, some (.sipush 3200, 3, 0, 0, 3200, 0, []), none, none, 
  some (.putfield 209, 3, 11, 25, 25, 0, [(0, 108)]), none, none, some (.aload_n 0, 1, 0, 0, 0, 0, []), some (.invokevirtual 221, 3, 211, 0, 0, 0, [(0, 241)]), none, none, some (.aload_n 0, 1, 0, 0, 0, 0, []), 
  some (.invokevirtual 257, 3, 215, 0, 0, 0, [(0, 244)]), none, none, some (.istore_n 1, 1, 0, 0, 0, 0, []), some (.iload_n 1, 1, 0, 0, 0, 0, []), some (.ifCond .lt 7, 3, 80, 0, 0, 0, []), none, none, 
  some (.iconst 1, 1, 0, 0, 1, 0, []), some (.goto 4, 3, 81, 0, 0, 0, []), none, none, some (.iconst 0, 1, 0, 0, 0, 0, []), some (.istore_n 2, 1, 0, 0, 0, 0, []), some (.iload_n 2, 1, 0, 0, 0, 0, []), 
  some (.ifCond .eq 28, 3, 111, 0, 0, 0, []), none, none, some (.aload_n 0, 1, 0, 0, 0, 0, []), some (.invokevirtual 221, 3, 211, 0, 0, 0, [(0, 241)]), none, none, some (.aload_n 0, 1, 0, 0, 0, 0, []), 
  some (.iload_n 1, 1, 0, 0, 0, 0, []), some (.invokevirtual 251, 3, 218, 1, 0, 0, [(0, 247)]), none, none, some (.ifCond .eq 14, 3, 109, 0, 0, 0, []), none, none, some (.aload_n 0, 1, 0, 0, 0, 0, []), 
  some (.getfield 183, 3, 11, 19, 19, 0, [(0, 102)]), none, none, some (.ifCond .ne 7, 3, 109, 0, 0, 0, []), none, none, some (.iconst 1, 1, 0, 0, 1, 0, []), some (.goto 4, 3, 110, 0, 0, 0, []), none, none, 
  some (.iconst 0, 1, 0, 0, 0, 0, []), some (.istore_n 2, 1, 0, 0, 0, 0, []), some (.aload_n 0, 1, 0, 0, 0, 0, []), some (.iconst 0, 1, 0, 0, 0, 0, []), some (.putfield 169, 3, 11, 16, 16, 0, [(0, 99)]), none, none, 
  some (.iload_n 2, 1, 0, 0, 0, 0, []), some (.ifCond .eq 7, 3, 124, 0, 0, 0, []), none, none, some (.iload_n 1, 1, 0, 0, 0, 0, []), some (.goto 4, 3, 125, 0, 0, 0, []), none, none, some (.iconst (-1), 1, 0, 0, -1, 0, []), 
  some (.ireturn, 1, 0, 0, 0, 0, [])]
set_option maxRecDepth 100000 in
def cd225 : Cd := [some (.iload_n 1, 1, 0, 0, 0, 0, []), some (.i2l, 1, 0, 0, 0, 0, []), some (.lconst 0, 1, 0, 0, 0, 0, []), some (.ldc2_w 112, 3, 0, 0, 0, 999, [(0, 4)]), none, none, some (.invokestatic 67, 3, 159, 3, 0, 0, [(0, 194)]), 
  none, none, some (.istore_n 2, 1, 0, 0, 0, 0, []), some (.aload_n 0, 1, 0, 0, 0, 0, []), some (.invokevirtual 261, 3, 224, 0, 0, 0, [(0, 239)]), none, none, some (.istore_n 3, 1, 0, 0, 0, 0, []), 
  some (.iload_n 2, 1, 0, 0, 0, 0, []), some (.ifCond .ne 6, 3, 22, 0, 0, 0, []), none, none, some (.ldc 87, 2, 0, 0, -1000000001, 0, [(0, 24)]), none, some (.ireturn, 1, 0, 0, 0, 0, []), 
  some (.iload_n 3, 1, 0, 0, 0, 0, []), some (.ifCond .ge 11, 3, 34, 0, 0, 0, []), none, none, some (.bipush (-100), 2, 0, 0, -100, 0, []), none, some (.aload_n 0, 1, 0, 0, 0, 0, []), 
  some (.getfield 186, 3, 11, 17, 17, 0, [(0, 100)]), none, none, some (.isub, 1, 0, 0, 0, 0, []), some (.ireturn, 1, 0, 0, 0, 0, []), some (.aload_n 0, 1, 0, 0, 0, 0, []), some (.getfield 7, 3, 11, 0, 0, 0, [(0, 83)]), 
  none, none, some (.iconst 4, 1, 0, 0, 4, 0, []), some (.iaload, 1, 0, 0, 0, 0, []), some (.bipush 12, 2, 0, 0, 12, 0, []), none, some (.if_icmp .ne 6, 3, 48, 0, 0, 0, []), none, none, 
  some (.ldc 88, 2, 0, 0, -1000000003, 0, [(0, 25)]), none, some (.ireturn, 1, 0, 0, 0, 0, []), some (.aload_n 0, 1, 0, 0, 0, 0, []), some (.aload_n 0, 1, 0, 0, 0, 0, []), some (.getfield 7, 3, 11, 0, 0, 0, [(0, 83)]), 
  none, none, some (.iconst 4, 1, 0, 0, 4, 0, []), some (.iaload, 1, 0, 0, 0, 0, []), some (.invokevirtual 254, 3, 166, 1, 0, 0, [(0, 240)]), none, none, some (.istore 4, 2, 0, 0, 0, 0, []), none, 
  some (.aload_n 0, 1, 0, 0, 0, 0, []), some (.getfield 7, 3, 11, 0, 0, 0, [(0, 83)]), none, none, some (.iload 4, 2, 0, 0, 0, 0, []), none, some (.iconst 0, 1, 0, 0, 0, 0, []), some (.iadd, 1, 0, 0, 0, 0, []), 
  some (.iload_n 3, 1, 0, 0, 0, 0, []), some (.iastore, 1, 0, 0, 0, 0, []), some (.aload_n 0, 1, 0, 0, 0, 0, []), some (.getfield 7, 3, 11, 0, 0, 0, [(0, 83)]), none, none, some (.iload 4, 2, 0, 0, 0, 0, []), none, 
  some (.iconst 1, 1, 0, 0, 1, 0, []), some (.iadd, 1, 0, 0, 0, 0, []), some (.iload_n 1, 1, 0, 0, 0, 0, []), some (.iastore, 1, 0, 0, 0, 0, []), some (.aload_n 0, 1, 0, 0, 0, 0, []), 
  some (.getfield 7, 3, 11, 0, 0, 0, [(0, 83)]), none, none, some (.iload 4, 2, 0, 0, 0, 0, []), none, some (.iconst 2, 1, 0, 0, 2, 0, []), some (.iadd, 1, 0, 0, 0, 0, []), some (.aload_n 0, 1, 0, 0, 0, 0, []), 
  some (.getfield 239, 3, 11, 26, 26, 0, [(0, 109)]), none, none, some (.iastore, 1, 0, 0, 0, 0, []), some (.aload_n 0, 1, 0, 0, 0, 0, []), some (.getfield 7, 3, 11, 0, 0, 0, [(0, 83)]), none, none, 
  some (.iload 4, 2, 0, 0, 0, 0, []), none, some (.iconst 3, 1, 0, 0, 3, 0, []), some (.iadd, 1, 0, 0, 0, 0, []), some (.aload_n 0, 1, 0, 0, 0, 0, []), some (.getfield 212, 3, 11, 24, 24, 0, [(0, 107)]), none, none, 
  some (.iastore, 1, 0, 0, 0, 0, []), some (.aload_n 0, 1, 0, 0, 0, 0, []), some (.getfield 7, 3, 11, 0, 0, 0, [(0, 83)]), none, none, some (.iconst 4, 1, 0, 0, 4, 0, []), some (.dup2, 1, 0, 0, 0, 0, []), 
  some (.iaload, 1, 0, 0, 0, 0, []), some (.iconst 1, 1, 0, 0, 1, 0, []), some (.iadd, 1, 0, 0, 0, 0, []), some (.iastore, 1, 0, 0, 0, 0, []), some (.aload_n 0, 1, 0, 0, 0, 0, []), 
  some (.getfield 7, 3, 11, 0, 0, 0, [(0, 83)]), none, none, some (.iconst 4, 1, 0, 0, 4, 0, []), some (.iaload, 1, 0, 0, 0, 0, []), some (.iconst 1, 1, 0, 0, 1, 0, []), some (.isub, 1, 0, 0, 0, 0, []), 
  some (.ireturn, 1, 0, 0, 0, 0, [])]
set_option maxRecDepth 100000 in
def cd226 : Cd := [some (.aload_n 0, 1, 0, 0, 0, 0, []), some (.iload_n 1, 1, 0, 0, 0, 0, []), some (.invokevirtual 264, 3, 171, 1, 0, 0, [(0, 257)]), none, none, some (.ifCond .eq 30, 3, 35, 0, 0, 0, []), none, none, 
  some (.iload_n 2, 1, 0, 0, 0, 0, []), some (.i2l, 1, 0, 0, 0, 0, []), some (.lconst 0, 1, 0, 0, 0, 0, []), some (.ldc2_w 267, 3, 0, 0, 0, 2, [(0, 12)]), none, none, some (.invokestatic 67, 3, 159, 3, 0, 0, [(0, 194)]), 
  none, none, some (.ifCond .eq 18, 3, 35, 0, 0, 0, []), none, none, some (.aload_n 0, 1, 0, 0, 0, 0, []), some (.getfield 7, 3, 11, 0, 0, 0, [(0, 83)]), none, none, some (.aload_n 0, 1, 0, 0, 0, 0, []), 
  some (.iload_n 1, 1, 0, 0, 0, 0, []), some (.invokevirtual 254, 3, 166, 1, 0, 0, [(0, 240)]), none, none, some (.iload_n 2, 1, 0, 0, 0, 0, []), some (.iadd, 1, 0, 0, 0, 0, []), some (.iaload, 1, 0, 0, 0, 0, []), 
  some (.goto 5, 3, 37, 0, 0, 0, []), none, none, some (.ldc 87, 2, 0, 0, -1000000001, 0, [(0, 24)]), none, some (.ireturn, 1, 0, 0, 0, 0, [])]
set_option maxRecDepth 100000 in
def cd227 : Cd := [some (.iconst (-1), 1, 0, 0, -1, 0, []), some (.istore_n 2, 1, 0, 0, 0, 0, []), some (.iconst 0, 1, 0, 0, 0, 0, []), some (.istore_n 3, 1, 0, 0, 0, 0, []), some (.iload_n 3, 1, 0, 0, 0, 0, []), 
  some (.aload_n 0, 1, 0, 0, 0, 0, []), some (.getfield 7, 3, 11, 0, 0, 0, [(0, 83)]), none, none, some (.iconst 4, 1, 0, 0, 4, 0, []), some (.iaload, 1, 0, 0, 0, 0, []), some (.if_icmp .ge 95, 3, 106, 0, 0, 0, []), none, 
  none, some (.aload_n 0, 1, 0, 0, 0, 0, []), some (.getfield 7, 3, 11, 0, 0, 0, [(0, 83)]), none, none, some (.aload_n 0, 1, 0, 0, 0, 0, []), some (.iload_n 3, 1, 0, 0, 0, 0, []), 
  some (.invokevirtual 254, 3, 166, 1, 0, 0, [(0, 240)]), none, none, some (.iconst 0, 1, 0, 0, 0, 0, []), some (.iadd, 1, 0, 0, 0, 0, []), some (.iaload, 1, 0, 0, 0, 0, []), some (.iload_n 1, 1, 0, 0, 0, 0, []), 
  some (.if_icmp .ne 28, 3, 55, 0, 0, 0, []), none, none, some (.aload_n 0, 1, 0, 0, 0, 0, []), some (.getfield 7, 3, 11, 0, 0, 0, [(0, 83)]), none, none, some (.aload_n 0, 1, 0, 0, 0, 0, []), 
  some (.iload_n 3, 1, 0, 0, 0, 0, []), some (.invokevirtual 254, 3, 166, 1, 0, 0, [(0, 240)]), none, none, some (.iconst 1, 1, 0, 0, 1, 0, []), some (.iadd, 1, 0, 0, 0, 0, []), some (.iaload, 1, 0, 0, 0, 0, []), 
  some (.aload_n 0, 1, 0, 0, 0, 0, []), some (.getfield 7, 3, 11, 0, 0, 0, [(0, 83)]), none, none, some (.iconst 0, 1, 0, 0, 0, 0, []), some (.iaload, 1, 0, 0, 0, 0, []), some (.if_icmp .gt 7, 3, 55, 0, 0, 0, []), none, 
  none, some (.iconst 1, 1, 0, 0, 1, 0, []), some (.goto 4, 3, 56, 0, 0, 0, []), none, none, some (.iconst 0, 1, 0, 0, 0, 0, []), some (.istore 4, 2, 0, 0, 0, 0, []), none, some (.iload 4, 2, 0, 0, 0, 0, []), none, 
  some (.ifCond .eq 38, 3, 98, 0, 0, 0, []), none, none, some (.iload_n 2, 1, 0, 0, 0, 0, []), some (.ifCond .lt 30, 3, 94, 0, 0, 0, []), none, none, some (.aload_n 0, 1, 0, 0, 0, 0, []), 
  some (.getfield 7, 3, 11, 0, 0, 0, [(0, 83)]), none, none, some (.aload_n 0, 1, 0, 0, 0, 0, []), some (.iload_n 3, 1, 0, 0, 0, 0, []), some (.invokevirtual 254, 3, 166, 1, 0, 0, [(0, 240)]), none, none, 
  some (.iconst 1, 1, 0, 0, 1, 0, []), some (.iadd, 1, 0, 0, 0, 0, []), some (.iaload, 1, 0, 0, 0, 0, []), some (.aload_n 0, 1, 0, 0, 0, 0, []), some (.getfield 7, 3, 11, 0, 0, 0, [(0, 83)]), none, none, 
  some (.aload_n 0, 1, 0, 0, 0, 0, []), some (.iload_n 2, 1, 0, 0, 0, 0, []), some (.invokevirtual 254, 3, 166, 1, 0, 0, [(0, 240)]), none, none, some (.iconst 1, 1, 0, 0, 1, 0, []), some (.iadd, 1, 0, 0, 0, 0, []), 
  some (.iaload, 1, 0, 0, 0, 0, []), some (.if_icmp .lt 7, 3, 98, 0, 0, 0, []), none, none, some (.iload_n 3, 1, 0, 0, 0, 0, []), some (.goto 4, 3, 99, 0, 0, 0, []), none, none, some (.iload_n 2, 1, 0, 0, 0, 0, []), 
  some (.istore_n 2, 1, 0, 0, 0, 0, []), some (.iinc 3 1, 3, 0, 0, 1, 0, []), none, none, some (.goto (-99), 3, 4, 0, 0, 0, []), none, none, some (.iload_n 2, 1, 0, 0, 0, 0, []), some (.ireturn, 1, 0, 0, 0, 0, [])]
set_option maxRecDepth 100000 in
def cd228 : Cd := [some (.iload_n 1, 1, 0, 0, 0, 0, []), some (.i2l, 1, 0, 0, 0, 0, []), some (.lconst 0, 1, 0, 0, 0, 0, []), some (.ldc2_w 85, 3, 0, 0, 0, 5, [(0, 0)]), none, none, some (.invokestatic 67, 3, 159, 3, 0, 0, [(0, 194)]), 
  none, none, some (.ifCond .eq 14, 3, 23, 0, 0, 0, []), none, none, some (.aload_n 0, 1, 0, 0, 0, 0, []), some (.iload_n 1, 1, 0, 0, 0, 0, []), some (.invokevirtual 269, 3, 227, 1, 0, 0, [(0, 259)]), none, none, 
  some (.invokestatic 119, 3, 160, 1, 0, 0, [(0, 209)]), none, none, some (.goto 5, 3, 25, 0, 0, 0, []), none, none, some (.ldc 87, 2, 0, 0, -1000000001, 0, [(0, 24)]), none, some (.ireturn, 1, 0, 0, 0, 0, [])]
set_option maxRecDepth 100000 in
def cd229 : Cd := [some (.iload_n 0, 1, 0, 0, 0, 0, []), 
  some (.tableswitch 196 38 62 #[182, 196, 196, 196, 123, 115, 196, 119, 196, 127, 196, 196, 196, 196, 196, 196, 196, 196, 196, 196, 196, 196, 149, 171, 160], 115, 197, 0, 0, 0, [(38, 183), (39, 197), (40, 197), (41, 197), (42, 124), (43, 116), (44, 197), (45, 120), (46, 197), (47, 128), (48, 197), (49, 197), (50, 197), (51, 197), (52, 197), (53, 197), (54, 197), (55, 197), (56, 197), (57, 197), (58, 197), (59, 197), (60, 150), (61, 172), (62, 161)]), 
  none, none, none, none, none, none, none, none, none, none, none, none, none, none, none, none, none, none, none, none, none, none, none, none, none, none, none, none, none, none, none, none, none, none, none, none, none, 
  none, none, none, none, none, none, none, none, none, none, none, none, none, none, none, none, none, none, none, none, none, none, none, none, none, none, none, none, none, none, none, none, none, none, none, none, none, 
  none, none, none, none, none, none, none, none, none, none, none, none, none, none, none, none, none, none, none, none, none, none, none, none, none, none, none, none, none, none, none, none, none, none, none, none, none, 
  none, none, none, some (.iload_n 1, 1, 0, 0, 0, 0, []), some (.iload_n 2, 1, 0, 0, 0, 0, []), some (.iadd, 1, 0, 0, 0, 0, []), some (.ireturn, 1, 0, 0, 0, 0, []), some (.iload_n 1, 1, 0, 0, 0, 0, []), 
  some (.iload_n 2, 1, 0, 0, 0, 0, []), some (.isub, 1, 0, 0, 0, 0, []), some (.ireturn, 1, 0, 0, 0, 0, []), some (.iload_n 1, 1, 0, 0, 0, 0, []), some (.iload_n 2, 1, 0, 0, 0, 0, []), some (.imul, 1, 0, 0, 0, 0, []), 
  some (.ireturn, 1, 0, 0, 0, 0, []), some (.iload_n 2, 1, 0, 0, 0, 0, []), some (.ifCond .ne 7, 3, 136, 0, 0, 0, []), none, none, some (.iconst 0, 1, 0, 0, 0, 0, []), some (.goto 16, 3, 149, 0, 0, 0, []), none, none, 
  some (.iload_n 2, 1, 0, 0, 0, 0, []), some (.iconst (-1), 1, 0, 0, -1, 0, []), some (.if_icmp .ne 8, 3, 146, 0, 0, 0, []), none, none, some (.iload_n 1, 1, 0, 0, 0, 0, []), some (.ineg, 1, 0, 0, 0, 0, []), 
  some (.goto 6, 3, 149, 0, 0, 0, []), none, none, some (.iload_n 1, 1, 0, 0, 0, 0, []), some (.iload_n 2, 1, 0, 0, 0, 0, []), some (.idiv, 1, 0, 0, 0, 0, []), some (.ireturn, 1, 0, 0, 0, 0, []), 
  some (.iload_n 1, 1, 0, 0, 0, 0, []), some (.iload_n 2, 1, 0, 0, 0, 0, []), some (.if_icmp .ge 7, 3, 159, 0, 0, 0, []), none, none, some (.iconst 1, 1, 0, 0, 1, 0, []), some (.goto 4, 3, 160, 0, 0, 0, []), none, none, 
  some (.iconst 0, 1, 0, 0, 0, 0, []), some (.ireturn, 1, 0, 0, 0, 0, []), some (.iload_n 1, 1, 0, 0, 0, 0, []), some (.iload_n 2, 1, 0, 0, 0, 0, []), some (.if_icmp .le 7, 3, 170, 0, 0, 0, []), none, none, 
  some (.iconst 1, 1, 0, 0, 1, 0, []), some (.goto 4, 3, 171, 0, 0, 0, []), none, none, some (.iconst 0, 1, 0, 0, 0, 0, []), some (.ireturn, 1, 0, 0, 0, 0, []), some (.iload_n 1, 1, 0, 0, 0, 0, []), 
  some (.iload_n 2, 1, 0, 0, 0, 0, []), some (.if_icmp .ne 7, 3, 181, 0, 0, 0, []), none, none, some (.iconst 1, 1, 0, 0, 1, 0, []), some (.goto 4, 3, 182, 0, 0, 0, []), none, none, some (.iconst 0, 1, 0, 0, 0, 0, []), 
  some (.ireturn, 1, 0, 0, 0, 0, []), some (.iload_n 1, 1, 0, 0, 0, 0, []), some (.ifCond .eq 11, 3, 195, 0, 0, 0, []), none, none, some (.iload_n 2, 1, 0, 0, 0, 0, []), some (.ifCond .eq 7, 3, 195, 0, 0, 0, []), none, 
  none, some (.iconst 1, 1, 0, 0, 1, 0, []), some (.goto 4, 3, 196, 0, 0, 0, []), none, none, some (.iconst 0, 1, 0, 0, 0, 0, []), some (.ireturn, 1, 0, 0, 0, 0, []), some (.iload_n 1, 1, 0, 0, 0, 0, []), 
  some (.ifCond .ne 7, 3, 205, 0, 0, 0, []), none, none, some (.iload_n 2, 1, 0, 0, 0, 0, []), some (.ifCond .eq 7, 3, 209, 0, 0, 0, []), none, none, some (.iconst 1, 1, 0, 0, 1, 0, []), some (.goto 4, 3, 210, 0, 0, 0, []), 
  none, none, some (.iconst 0, 1, 0, 0, 0, 0, []), some (.ireturn, 1, 0, 0, 0, 0, [])]
set_option maxRecDepth 100000 in
def cd230 : Cd := [some (.iconst 0, 1, 0, 0, 0, 0, []), some (.istore_n 2, 1, 0, 0, 0, 0, []), some (.iconst 0, 1, 0, 0, 0, 0, []), some (.istore_n 3, 1, 0, 0, 0, 0, []), some (.iload_n 3, 1, 0, 0, 0, 0, []), 
  some (.aload_n 0, 1, 0, 0, 0, 0, []), some (.getfield 7, 3, 11, 0, 0, 0, [(0, 83)]), none, none, some (.aload_n 0, 1, 0, 0, 0, 0, []), some (.iload_n 1, 1, 0, 0, 0, 0, []), 
  some (.invokevirtual 254, 3, 166, 1, 0, 0, [(0, 240)]), none, none, some (.iconst 3, 1, 0, 0, 3, 0, []), some (.iadd, 1, 0, 0, 0, 0, []), some (.iaload, 1, 0, 0, 0, 0, []), some (.if_icmp .ge 146, 3, 163, 0, 0, 0, []), 
  none, none, some (.aload_n 0, 1, 0, 0, 0, 0, []), some (.getfield 7, 3, 11, 0, 0, 0, [(0, 83)]), none, none, some (.aload_n 0, 1, 0, 0, 0, 0, []), some (.iload_n 1, 1, 0, 0, 0, 0, []), 
  some (.invokevirtual 254, 3, 166, 1, 0, 0, [(0, 240)]), none, none, some (.iconst 4, 1, 0, 0, 4, 0, []), some (.iadd, 1, 0, 0, 0, 0, []), some (.iconst 2, 1, 0, 0, 2, 0, []), some (.iload_n 3, 1, 0, 0, 0, 0, []), 
  some (.imul, 1, 0, 0, 0, 0, []), some (.iadd, 1, 0, 0, 0, 0, []), some (.iaload, 1, 0, 0, 0, 0, []), some (.istore 4, 2, 0, 0, 0, 0, []), none, some (.aload_n 0, 1, 0, 0, 0, 0, []), 
  some (.getfield 7, 3, 11, 0, 0, 0, [(0, 83)]), none, none, some (.aload_n 0, 1, 0, 0, 0, 0, []), some (.iload_n 1, 1, 0, 0, 0, 0, []), some (.invokevirtual 254, 3, 166, 1, 0, 0, [(0, 240)]), none, none, 
  some (.iconst 4, 1, 0, 0, 4, 0, []), some (.iadd, 1, 0, 0, 0, 0, []), some (.iconst 2, 1, 0, 0, 2, 0, []), some (.iload_n 3, 1, 0, 0, 0, 0, []), some (.imul, 1, 0, 0, 0, 0, []), some (.iadd, 1, 0, 0, 0, 0, []), 
  some (.iconst 1, 1, 0, 0, 1, 0, []), some (.iadd, 1, 0, 0, 0, 0, []), some (.iaload, 1, 0, 0, 0, 0, []), some (.istore 5, 2, 0, 0, 0, 0, []), none, some (.iload 4, 2, 0, 0, 0, 0, []), none, 
  some (.iconst 2, 1, 0, 0, 2, 0, []), some (.if_icmp .eq 32, 3, 93, 0, 0, 0, []), none, none, some (.aload_n 0, 1, 0, 0, 0, 0, []), some (.getfield 54, 3, 11, 28, 28, 0, [(0, 111)]), none, none, 
  some (.iload_n 2, 1, 0, 0, 0, 0, []), some (.iload 4, 2, 0, 0, 0, 0, []), none, some (.ifCond .ne 8, 3, 79, 0, 0, 0, []), none, none, some (.iload 5, 2, 0, 0, 0, 0, []), none, some (.goto 10, 3, 86, 0, 0, 0, []), none, 
  none, some (.aload_n 0, 1, 0, 0, 0, 0, []), some (.getfield 51, 3, 11, 27, 27, 0, [(0, 110)]), none, none, some (.iload 5, 2, 0, 0, 0, 0, []), none, some (.iaload, 1, 0, 0, 0, 0, []), some (.iastore, 1, 0, 0, 0, 0, []), 
  some (.iinc 2 1, 3, 0, 0, 1, 0, []), none, none, some (.goto 67, 3, 157, 0, 0, 0, []), none, none, some (.iload 5, 2, 0, 0, 0, 0, []), none, some (.bipush 33, 2, 0, 0, 33, 0, []), none, 
  some (.if_icmp .ne 30, 3, 127, 0, 0, 0, []), none, none, some (.aload_n 0, 1, 0, 0, 0, 0, []), some (.getfield 54, 3, 11, 28, 28, 0, [(0, 111)]), none, none, some (.iload_n 2, 1, 0, 0, 0, 0, []), 
  some (.iconst 1, 1, 0, 0, 1, 0, []), some (.isub, 1, 0, 0, 0, 0, []), some (.aload_n 0, 1, 0, 0, 0, 0, []), some (.getfield 54, 3, 11, 28, 28, 0, [(0, 111)]), none, none, some (.iload_n 2, 1, 0, 0, 0, 0, []), 
  some (.iconst 1, 1, 0, 0, 1, 0, []), some (.isub, 1, 0, 0, 0, 0, []), some (.iaload, 1, 0, 0, 0, 0, []), some (.ifCond .ne 7, 3, 122, 0, 0, 0, []), none, none, some (.iconst 1, 1, 0, 0, 1, 0, []), 
  some (.goto 4, 3, 123, 0, 0, 0, []), none, none, some (.iconst 0, 1, 0, 0, 0, 0, []), some (.iastore, 1, 0, 0, 0, 0, []), some (.goto 33, 3, 157, 0, 0, 0, []), none, none, some (.iinc 2 (-1), 3, 0, 0, -1, 0, []), none, 
  none, some (.aload_n 0, 1, 0, 0, 0, 0, []), some (.getfield 54, 3, 11, 28, 28, 0, [(0, 111)]), none, none, some (.iload_n 2, 1, 0, 0, 0, 0, []), some (.iconst 1, 1, 0, 0, 1, 0, []), some (.isub, 1, 0, 0, 0, 0, []), 
  some (.iload 5, 2, 0, 0, 0, 0, []), none, some (.aload_n 0, 1, 0, 0, 0, 0, []), some (.getfield 54, 3, 11, 28, 28, 0, [(0, 111)]), none, none, some (.iload_n 2, 1, 0, 0, 0, 0, []), some (.iconst 1, 1, 0, 0, 1, 0, []), 
  some (.isub, 1, 0, 0, 0, 0, []), some (.iaload, 1, 0, 0, 0, 0, []), some (.aload_n 0, 1, 0, 0, 0, 0, []), some (.getfield 54, 3, 11, 28, 28, 0, [(0, 111)]), none, none, some (.iload_n 2, 1, 0, 0, 0, 0, []), 
  some (.iaload, 1, 0, 0, 0, 0, []), some (.invokestatic 272, 3, 229, 3, 0, 0, [(0, 263)]), none, none, some (.iastore, 1, 0, 0, 0, 0, []), some (.iinc 3 1, 3, 0, 0, 1, 0, []), none, none, 
  some (.goto (-156), 3, 4, 0, 0, 0, []), none, none, some (.aload_n 0, 1, 0, 0, 0, 0, []), some (.getfield 54, 3, 11, 28, 28, 0, [(0, 111)]), none, none, some (.iconst 0, 1, 0, 0, 0, 0, []), 
  some (.iaload, 1, 0, 0, 0, 0, []), some (.ireturn, 1, 0, 0, 0, 0, [])]
set_option maxRecDepth 100000 in
def cd231 : Cd := [some (.aload_n 0, 1, 0, 0, 0, 0, []), some (.getfield 51, 3, 11, 27, 27, 0, [(0, 110)]), none, none, some (.iload_n 1, 1, 0, 0, 0, 0, []), some (.ifCond .ne 8, 3, 13, 0, 0, 0, []), none, none, 
  some (.bipush 110, 2, 0, 0, 110, 0, []), none, some (.goto 25, 3, 35, 0, 0, 0, []), none, none, some (.iload_n 1, 1, 0, 0, 0, 0, []), some (.iconst 1, 1, 0, 0, 1, 0, []), some (.if_icmp .ne 8, 3, 23, 0, 0, 0, []), none, 
  none, some (.bipush 107, 2, 0, 0, 107, 0, []), none, some (.goto 15, 3, 35, 0, 0, 0, []), none, none, some (.iload_n 1, 1, 0, 0, 0, 0, []), some (.iconst 5, 1, 0, 0, 5, 0, []), some (.if_icmp .ne 8, 3, 33, 0, 0, 0, []), 
  none, none, some (.bipush 119, 2, 0, 0, 119, 0, []), none, some (.goto 5, 3, 35, 0, 0, 0, []), none, none, some (.bipush 103, 2, 0, 0, 103, 0, []), none, some (.iload_n 2, 1, 0, 0, 0, 0, []), 
  some (.iastore, 1, 0, 0, 0, 0, []), some (.iload_n 1, 1, 0, 0, 0, 0, []), some (.ifCond .eq 8, 3, 46, 0, 0, 0, []), none, none, some (.iload_n 1, 1, 0, 0, 0, 0, []), some (.iconst 5, 1, 0, 0, 5, 0, []), 
  some (.if_icmp .ne 11, 3, 54, 0, 0, 0, []), none, none, some (.aload_n 0, 1, 0, 0, 0, 0, []), some (.getfield 51, 3, 11, 27, 27, 0, [(0, 110)]), none, none, some (.bipush 107, 2, 0, 0, 107, 0, []), none, 
  some (.iload_n 3, 1, 0, 0, 0, 0, []), some (.iastore, 1, 0, 0, 0, 0, []), some (.iload_n 1, 1, 0, 0, 0, 0, []), some (.iconst 2, 1, 0, 0, 2, 0, []), some (.if_icmp .eq 8, 3, 64, 0, 0, 0, []), none, none, 
  some (.iload_n 1, 1, 0, 0, 0, 0, []), some (.iconst 3, 1, 0, 0, 3, 0, []), some (.if_icmp .ne 21, 3, 82, 0, 0, 0, []), none, none, some (.aload_n 0, 1, 0, 0, 0, 0, []), some (.getfield 51, 3, 11, 27, 27, 0, [(0, 110)]), 
  none, none, some (.iload_n 1, 1, 0, 0, 0, 0, []), some (.iconst 2, 1, 0, 0, 2, 0, []), some (.if_icmp .ne 8, 3, 78, 0, 0, 0, []), none, none, some (.bipush 111, 2, 0, 0, 111, 0, []), none, 
  some (.goto 5, 3, 80, 0, 0, 0, []), none, none, some (.bipush 116, 2, 0, 0, 116, 0, []), none, some (.iload_n 3, 1, 0, 0, 0, 0, []), some (.iastore, 1, 0, 0, 0, 0, []), some (.iload_n 1, 1, 0, 0, 0, 0, []), 
  some (.ifCond .ne 12, 3, 95, 0, 0, 0, []), none, none, some (.aload_n 0, 1, 0, 0, 0, 0, []), some (.getfield 51, 3, 11, 27, 27, 0, [(0, 110)]), none, none, some (.bipush 114, 2, 0, 0, 114, 0, []), none, 
  some (.iload 4, 2, 0, 0, 0, 0, []), none, some (.iastore, 1, 0, 0, 0, 0, []), some (.aload_n 0, 1, 0, 0, 0, 0, []), some (.iload_n 1, 1, 0, 0, 0, 0, []), some (.invokevirtual 269, 3, 227, 1, 0, 0, [(0, 259)]), none, none, 
  some (.istore 5, 2, 0, 0, 0, 0, []), none, some (.iload 5, 2, 0, 0, 0, 0, []), none, some (.ifCond .ge 15, 3, 119, 0, 0, 0, []), none, none, some (.iload_n 1, 1, 0, 0, 0, 0, []), some (.ifCond .ne 7, 3, 115, 0, 0, 0, []), 
  none, none, some (.iload_n 2, 1, 0, 0, 0, 0, []), some (.goto 13, 3, 125, 0, 0, 0, []), none, none, some (.iconst 0, 1, 0, 0, 0, 0, []), some (.goto 9, 3, 125, 0, 0, 0, []), none, none, 
  some (.aload_n 0, 1, 0, 0, 0, 0, []), some (.iload 5, 2, 0, 0, 0, 0, []), none, some (.invokevirtual 276, 3, 230, 1, 0, 0, [(0, 262)]), none, none, some (.istore 6, 2, 0, 0, 0, 0, []), none, 
  some (.iload 6, 2, 0, 0, 0, 0, []), none, some (.ifCond .ge 7, 3, 136, 0, 0, 0, []), none, none, some (.iconst 0, 1, 0, 0, 0, 0, []), some (.goto 11, 3, 144, 0, 0, 0, []), none, none, some (.iload 6, 2, 0, 0, 0, 0, []), 
  none, some (.sipush 9999, 3, 0, 0, 9999, 0, []), none, none, some (.invokestatic 81, 3, 161, 2, 0, 0, [(0, 264)]), none, none, some (.ireturn, 1, 0, 0, 0, 0, [])]
set_option maxRecDepth 100000 in
def cd232 : Cd := [some (.iload_n 1, 1, 0, 0, 0, 0, []), some (.i2l, 1, 0, 0, 0, 0, []), some (.lconst 0, 1, 0, 0, 0, 0, []), some (.ldc2_w 85, 3, 0, 0, 0, 5, [(0, 0)]), none, none, some (.invokestatic 67, 3, 159, 3, 0, 0, [(0, 194)]), 
  none, none, some (.ifCond .eq 15, 3, 24, 0, 0, 0, []), none, none, some (.aload_n 0, 1, 0, 0, 0, 0, []), some (.iload_n 1, 1, 0, 0, 0, 0, []), some (.iload_n 2, 1, 0, 0, 0, 0, []), some (.iload_n 3, 1, 0, 0, 0, 0, []), 
  some (.iload 4, 2, 0, 0, 0, 0, []), none, some (.invokevirtual 279, 3, 231, 4, 0, 0, [(0, 261)]), none, none, some (.goto 5, 3, 26, 0, 0, 0, []), none, none, some (.ldc 87, 2, 0, 0, -1000000001, 0, [(0, 24)]), none, 
  some (.ireturn, 1, 0, 0, 0, 0, [])]
set_option maxRecDepth 100000 in
def cd233 : Cd := [some (.aload_n 0, 1, 0, 0, 0, 0, []), some (.iload_n 1, 1, 0, 0, 0, 0, []), some (.invokevirtual 71, 3, 164, 1, 0, 0, [(0, 205)]), none, none, some (.istore_n 2, 1, 0, 0, 0, 0, []), some (.aload_n 0, 1, 0, 0, 0, 0, []), 
  some (.getfield 7, 3, 11, 0, 0, 0, [(0, 83)]), none, none, some (.iload_n 2, 1, 0, 0, 0, 0, []), some (.bipush 10, 2, 0, 0, 10, 0, []), none, some (.iadd, 1, 0, 0, 0, 0, []), some (.iaload, 1, 0, 0, 0, 0, []), 
  some (.istore_n 3, 1, 0, 0, 0, 0, []), some (.iload_n 3, 1, 0, 0, 0, 0, []), some (.aload_n 0, 1, 0, 0, 0, 0, []), some (.iconst 4, 1, 0, 0, 4, 0, []), some (.iload_n 3, 1, 0, 0, 0, 0, []), 
  some (.iconst 0, 1, 0, 0, 0, 0, []), some (.iconst 0, 1, 0, 0, 0, 0, []), some (.invokevirtual 279, 3, 231, 4, 0, 0, [(0, 261)]), none, none, some (.isub, 1, 0, 0, 0, 0, []), some (.istore 4, 2, 0, 0, 0, 0, []), none, 
  some (.iload 4, 2, 0, 0, 0, 0, []), none, some (.ifCond .ge 7, 3, 37, 0, 0, 0, []), none, none, some (.iconst 0, 1, 0, 0, 0, 0, []), some (.goto 5, 3, 39, 0, 0, 0, []), none, none, some (.iload 4, 2, 0, 0, 0, 0, []), 
  none, some (.istore 4, 2, 0, 0, 0, 0, []), none, some (.aload_n 0, 1, 0, 0, 0, 0, []), some (.iload 4, 2, 0, 0, 0, 0, []), none, some (.aload_n 0, 1, 0, 0, 0, 0, []), some (.getfield 7, 3, 11, 0, 0, 0, [(0, 83)]), none, 
  none, some (.iload_n 2, 1, 0, 0, 0, 0, []), some (.iconst 3, 1, 0, 0, 3, 0, []), some (.iadd, 1, 0, 0, 0, 0, []), some (.iaload, 1, 0, 0, 0, 0, []), some (.aload_n 0, 1, 0, 0, 0, 0, []), 
  some (.iconst 2, 1, 0, 0, 2, 0, []), some (.iload_n 3, 1, 0, 0, 0, 0, []), some (.aload_n 0, 1, 0, 0, 0, 0, []), some (.getfield 7, 3, 11, 0, 0, 0, [(0, 83)]), none, none, some (.iload_n 2, 1, 0, 0, 0, 0, []), 
  some (.iconst 3, 1, 0, 0, 3, 0, []), some (.iadd, 1, 0, 0, 0, 0, []), some (.iaload, 1, 0, 0, 0, 0, []), some (.iconst 0, 1, 0, 0, 0, 0, []), some (.invokevirtual 279, 3, 231, 4, 0, 0, [(0, 261)]), none, none, 
  some (.invokestatic 81, 3, 161, 2, 0, 0, [(0, 264)]), none, none, some (.invokestatic 81, 3, 161, 2, 0, 0, [(0, 264)]), none, none, some (.putfield 283, 3, 11, 29, 29, 0, [(0, 112)]), none, none, 
  some (.iload 4, 2, 0, 0, 0, 0, []), none, some (.aload_n 0, 1, 0, 0, 0, 0, []), some (.getfield 283, 3, 11, 29, 29, 0, [(0, 112)]), none, none, some (.isub, 1, 0, 0, 0, 0, []), some (.istore 4, 2, 0, 0, 0, 0, []), none, 
  some (.aload_n 0, 1, 0, 0, 0, 0, []), some (.iload 4, 2, 0, 0, 0, 0, []), none, some (.aload_n 0, 1, 0, 0, 0, 0, []), some (.iconst 3, 1, 0, 0, 3, 0, []), some (.iload_n 3, 1, 0, 0, 0, 0, []), 
  some (.aload_n 0, 1, 0, 0, 0, 0, []), some (.getfield 7, 3, 11, 0, 0, 0, [(0, 83)]), none, none, some (.iload_n 2, 1, 0, 0, 0, 0, []), some (.iconst 2, 1, 0, 0, 2, 0, []), some (.iadd, 1, 0, 0, 0, 0, []), 
  some (.iaload, 1, 0, 0, 0, 0, []), some (.aload_n 0, 1, 0, 0, 0, 0, []), some (.getfield 7, 3, 11, 0, 0, 0, [(0, 83)]), none, none, some (.iconst 0, 1, 0, 0, 0, 0, []), some (.iaload, 1, 0, 0, 0, 0, []), 
  some (.isub, 1, 0, 0, 0, 0, []), some (.iconst 0, 1, 0, 0, 0, 0, []), some (.invokevirtual 279, 3, 231, 4, 0, 0, [(0, 261)]), none, none, some (.invokestatic 81, 3, 161, 2, 0, 0, [(0, 264)]), none, none, 
  some (.putfield 286, 3, 11, 30, 30, 0, [(0, 113)]), none, none, some (.aload_n 0, 1, 0, 0, 0, 0, []), some (.iload_n 3, 1, 0, 0, 0, 0, []), some (.aload_n 0, 1, 0, 0, 0, 0, []), 
  some (.getfield 283, 3, 11, 29, 29, 0, [(0, 112)]), none, none, some (.isub, 1, 0, 0, 0, 0, []), some (.aload_n 0, 1, 0, 0, 0, 0, []), some (.getfield 286, 3, 11, 30, 30, 0, [(0, 113)]), none, none, 
  some (.isub, 1, 0, 0, 0, 0, []), some (.putfield 289, 3, 11, 31, 31, 0, [(0, 114)]), none, none, some (.return_, 1, 0, 0, 0, 0, [])]
set_option maxRecDepth 100000 in
def cd234 : Cd := [some (.aload_n 0, 1, 0, 0, 0, 0, []), some (.iload_n 1, 1, 0, 0, 0, 0, []), some (.invokevirtual 114, 3, 169, 1, 0, 0, [(0, 208)]), none, none, some (.ifCond .ne 6, 3, 11, 0, 0, 0, []), none, none, 
  some (.ldc 87, 2, 0, 0, -1000000001, 0, [(0, 24)]), none, some (.ireturn, 1, 0, 0, 0, 0, []), some (.aload_n 0, 1, 0, 0, 0, 0, []), some (.iload_n 1, 1, 0, 0, 0, 0, []), 
  some (.invokevirtual 124, 3, 172, 1, 0, 0, [(0, 214)]), none, none, some (.ifCond .eq 6, 3, 22, 0, 0, 0, []), none, none, some (.ldc 134, 2, 0, 0, -1000000002, 0, [(0, 27)]), none, some (.ireturn, 1, 0, 0, 0, 0, []), 
  some (.aload_n 0, 1, 0, 0, 0, 0, []), some (.iload_n 1, 1, 0, 0, 0, 0, []), some (.invokevirtual 292, 3, 233, 1, 0, 0, [(0, 266)]), none, none, some (.aload_n 0, 1, 0, 0, 0, 0, []), 
  some (.getfield 7, 3, 11, 0, 0, 0, [(0, 83)]), none, none, some (.aload_n 0, 1, 0, 0, 0, 0, []), some (.iload_n 1, 1, 0, 0, 0, 0, []), some (.invokevirtual 71, 3, 164, 1, 0, 0, [(0, 205)]), none, none, 
  some (.iconst 3, 1, 0, 0, 3, 0, []), some (.iadd, 1, 0, 0, 0, 0, []), some (.dup2, 1, 0, 0, 0, 0, []), some (.iaload, 1, 0, 0, 0, 0, []), some (.aload_n 0, 1, 0, 0, 0, 0, []), 
  some (.getfield 283, 3, 11, 29, 29, 0, [(0, 112)]), none, none, some (.isub, 1, 0, 0, 0, 0, []), some (.iastore, 1, 0, 0, 0, 0, []), some (.aload_n 0, 1, 0, 0, 0, 0, []), some (.iload_n 1, 1, 0, 0, 0, 0, []), 
  some (.iconst 5, 1, 0, 0, 5, 0, []), some (.aload_n 0, 1, 0, 0, 0, 0, []), some (.getfield 286, 3, 11, 30, 30, 0, [(0, 113)]), none, none, some (.invokevirtual 296, 3, 174, 3, 0, 0, [(0, 267)]), none, none, 
  some (.aload_n 0, 1, 0, 0, 0, 0, []), some (.iload_n 1, 1, 0, 0, 0, 0, []), some (.iconst 4, 1, 0, 0, 4, 0, []), some (.aload_n 0, 1, 0, 0, 0, 0, []), some (.getfield 289, 3, 11, 31, 31, 0, [(0, 114)]), none, none, 
  some (.invokevirtual 296, 3, 174, 3, 0, 0, [(0, 267)]), none, none, some (.aload_n 0, 1, 0, 0, 0, 0, []), some (.getfield 7, 3, 11, 0, 0, 0, [(0, 83)]), none, none, some (.aload_n 0, 1, 0, 0, 0, 0, []), 
  some (.iload_n 1, 1, 0, 0, 0, 0, []), some (.invokevirtual 71, 3, 164, 1, 0, 0, [(0, 205)]), none, none, some (.bipush 10, 2, 0, 0, 10, 0, []), none, some (.iadd, 1, 0, 0, 0, 0, []), some (.iconst 0, 1, 0, 0, 0, 0, []), 
  some (.iastore, 1, 0, 0, 0, 0, []), some (.aload_n 0, 1, 0, 0, 0, 0, []), some (.getfield 289, 3, 11, 31, 31, 0, [(0, 114)]), none, none, some (.ireturn, 1, 0, 0, 0, 0, [])]
set_option maxRecDepth 100000 in
def cd235 : Cd := [some (.aload_n 0, 1, 0, 0, 0, 0, []), some (.iload_n 1, 1, 0, 0, 0, 0, []), some (.invokevirtual 114, 3, 169, 1, 0, 0, [(0, 208)]), none, none, some (.ifCond .eq 15, 3, 20, 0, 0, 0, []), none, none, 
  some (.iload_n 2, 1, 0, 0, 0, 0, []), some (.i2l, 1, 0, 0, 0, 0, []), some (.lconst 0, 1, 0, 0, 0, 0, []), some (.ldc2_w 267, 3, 0, 0, 0, 2, [(0, 12)]), none, none, some (.invokestatic 67, 3, 159, 3, 0, 0, [(0, 194)]), 
  none, none, some (.ifCond .ne 6, 3, 23, 0, 0, 0, []), none, none, some (.ldc 87, 2, 0, 0, -1000000001, 0, [(0, 24)]), none, some (.ireturn, 1, 0, 0, 0, 0, []), some (.aload_n 0, 1, 0, 0, 0, 0, []), 
  some (.iload_n 1, 1, 0, 0, 0, 0, []), some (.invokevirtual 124, 3, 172, 1, 0, 0, [(0, 214)]), none, none, some (.ifCond .eq 6, 3, 34, 0, 0, 0, []), none, none, some (.ldc 134, 2, 0, 0, -1000000002, 0, [(0, 27)]), none, 
  some (.ireturn, 1, 0, 0, 0, 0, []), some (.aload_n 0, 1, 0, 0, 0, 0, []), some (.iload_n 1, 1, 0, 0, 0, 0, []), some (.invokevirtual 292, 3, 233, 1, 0, 0, [(0, 266)]), none, none, some (.iload_n 2, 1, 0, 0, 0, 0, []), 
  some (.ifCond .ne 10, 3, 50, 0, 0, 0, []), none, none, some (.aload_n 0, 1, 0, 0, 0, 0, []), some (.getfield 283, 3, 11, 29, 29, 0, [(0, 112)]), none, none, some (.goto 19, 3, 66, 0, 0, 0, []), none, none, 
  some (.iload_n 2, 1, 0, 0, 0, 0, []), some (.iconst 1, 1, 0, 0, 1, 0, []), some (.if_icmp .ne 10, 3, 62, 0, 0, 0, []), none, none, some (.aload_n 0, 1, 0, 0, 0, 0, []), some (.getfield 286, 3, 11, 30, 30, 0, [(0, 113)]), 
  none, none, some (.goto 7, 3, 66, 0, 0, 0, []), none, none, some (.aload_n 0, 1, 0, 0, 0, 0, []), some (.getfield 289, 3, 11, 31, 31, 0, [(0, 114)]), none, none, some (.ireturn, 1, 0, 0, 0, 0, [])]
set_option maxRecDepth 100000 in
def cd236 : Cd := [some (.aload_n 0, 1, 0, 0, 0, 0, []), some (.aload_n 0, 1, 0, 0, 0, 0, []), some (.getfield 7, 3, 11, 0, 0, 0, [(0, 83)]), none, none, some (.iconst 5, 1, 0, 0, 5, 0, []), some (.iaload, 1, 0, 0, 0, 0, []), 
  some (.invokevirtual 299, 3, 167, 1, 0, 0, [(0, 271)]), none, none, some (.istore_n 3, 1, 0, 0, 0, 0, []), some (.aload_n 0, 1, 0, 0, 0, 0, []), some (.getfield 7, 3, 11, 0, 0, 0, [(0, 83)]), none, none, 
  some (.iload_n 3, 1, 0, 0, 0, 0, []), some (.iload_n 1, 1, 0, 0, 0, 0, []), some (.iastore, 1, 0, 0, 0, 0, []), some (.aload_n 0, 1, 0, 0, 0, 0, []), some (.getfield 7, 3, 11, 0, 0, 0, [(0, 83)]), none, none, 
  some (.iload_n 3, 1, 0, 0, 0, 0, []), some (.iconst 1, 1, 0, 0, 1, 0, []), some (.iadd, 1, 0, 0, 0, 0, []), some (.iload_n 2, 1, 0, 0, 0, 0, []), some (.iastore, 1, 0, 0, 0, 0, []), some (.aload_n 0, 1, 0, 0, 0, 0, []), 
  some (.getfield 7, 3, 11, 0, 0, 0, [(0, 83)]), none, none, some (.iload_n 3, 1, 0, 0, 0, 0, []), some (.iconst 2, 1, 0, 0, 2, 0, []), some (.iadd, 1, 0, 0, 0, 0, []), some (.aload_n 0, 1, 0, 0, 0, 0, []), 
  some (.getfield 7, 3, 11, 0, 0, 0, [(0, 83)]), none, none, some (.iconst 0, 1, 0, 0, 0, 0, []), some (.iaload, 1, 0, 0, 0, 0, []), some (.iastore, 1, 0, 0, 0, 0, []), some (.aload_n 0, 1, 0, 0, 0, 0, []), 
  some (.getfield 7, 3, 11, 0, 0, 0, [(0, 83)]), none, none, some (.iload_n 3, 1, 0, 0, 0, 0, []), some (.iconst 3, 1, 0, 0, 3, 0, []), some (.iadd, 1, 0, 0, 0, 0, []), some (.iconst (-1), 1, 0, 0, -1, 0, []), 
  some (.iastore, 1, 0, 0, 0, 0, []), some (.aload_n 0, 1, 0, 0, 0, 0, []), some (.getfield 7, 3, 11, 0, 0, 0, [(0, 83)]), none, none, some (.iconst 5, 1, 0, 0, 5, 0, []), some (.dup2, 1, 0, 0, 0, 0, []), 
  some (.iaload, 1, 0, 0, 0, 0, []), some (.iconst 1, 1, 0, 0, 1, 0, []), some (.iadd, 1, 0, 0, 0, 0, []), some (.iastore, 1, 0, 0, 0, 0, []), some (.aload_n 0, 1, 0, 0, 0, 0, []), 
  some (.getfield 7, 3, 11, 0, 0, 0, [(0, 83)]), none, none, some (.iconst 5, 1, 0, 0, 5, 0, []), some (.iaload, 1, 0, 0, 0, 0, []), some (.iconst 1, 1, 0, 0, 1, 0, []), some (.isub, 1, 0, 0, 0, 0, []), 
  some (.ireturn, 1, 0, 0, 0, 0, [])]
set_option maxRecDepth 100000 in
def cd237 : Cd := [some (.aload_n 0, 1, 0, 0, 0, 0, []), some (.iload_n 1, 1, 0, 0, 0, 0, []), some (.invokevirtual 114, 3, 169, 1, 0, 0, [(0, 208)]), none, none, some (.ifCond .ne 6, 3, 11, 0, 0, 0, []), none, none, 
  some (.ldc 87, 2, 0, 0, -1000000001, 0, [(0, 24)]), none, some (.ireturn, 1, 0, 0, 0, 0, []), some (.aload_n 0, 1, 0, 0, 0, 0, []), some (.iload_n 1, 1, 0, 0, 0, 0, []), 
  some (.invokevirtual 124, 3, 172, 1, 0, 0, [(0, 214)]), none, none, some (.ifCond .eq 6, 3, 22, 0, 0, 0, []), none, none, some (.ldc 134, 2, 0, 0, -1000000002, 0, [(0, 27)]), none, some (.ireturn, 1, 0, 0, 0, 0, []), 
  some (.aload_n 0, 1, 0, 0, 0, 0, []), some (.getfield 7, 3, 11, 0, 0, 0, [(0, 83)]), none, none, some (.iconst 5, 1, 0, 0, 5, 0, []), some (.iaload, 1, 0, 0, 0, 0, []), some (.bipush 40, 2, 0, 0, 40, 0, []), none, 
  some (.if_icmp .ne 6, 3, 36, 0, 0, 0, []), none, none, some (.ldc 88, 2, 0, 0, -1000000003, 0, [(0, 25)]), none, some (.ireturn, 1, 0, 0, 0, 0, []), some (.aload_n 0, 1, 0, 0, 0, 0, []), 
  some (.iload_n 1, 1, 0, 0, 0, 0, []), some (.invokevirtual 71, 3, 164, 1, 0, 0, [(0, 205)]), none, none, some (.istore_n 2, 1, 0, 0, 0, 0, []), some (.bipush 99, 2, 0, 0, 99, 0, []), none, 
  some (.aload_n 0, 1, 0, 0, 0, 0, []), some (.iconst 5, 1, 0, 0, 5, 0, []), some (.aload_n 0, 1, 0, 0, 0, 0, []), some (.getfield 7, 3, 11, 0, 0, 0, [(0, 83)]), none, none, some (.iload_n 2, 1, 0, 0, 0, 0, []), 
  some (.bipush 6, 2, 0, 0, 6, 0, []), none, some (.iadd, 1, 0, 0, 0, 0, []), some (.iaload, 1, 0, 0, 0, 0, []), some (.aload_n 0, 1, 0, 0, 0, 0, []), some (.getfield 7, 3, 11, 0, 0, 0, [(0, 83)]), none, none, 
  some (.iload_n 2, 1, 0, 0, 0, 0, []), some (.bipush 12, 2, 0, 0, 12, 0, []), none, some (.iadd, 1, 0, 0, 0, 0, []), some (.iaload, 1, 0, 0, 0, 0, []), some (.isub, 1, 0, 0, 0, 0, []), some (.aload_n 0, 1, 0, 0, 0, 0, []), 
  some (.getfield 7, 3, 11, 0, 0, 0, [(0, 83)]), none, none, some (.iload_n 2, 1, 0, 0, 0, 0, []), some (.iconst 1, 1, 0, 0, 1, 0, []), some (.iadd, 1, 0, 0, 0, 0, []), some (.iaload, 1, 0, 0, 0, 0, []), 
  some (.iconst 0, 1, 0, 0, 0, 0, []), some (.invokevirtual 279, 3, 231, 4, 0, 0, [(0, 261)]), none, none, some (.invokestatic 81, 3, 161, 2, 0, 0, [(0, 264)]), none, none, some (.istore_n 3, 1, 0, 0, 0, 0, []), 
  some (.aload_n 0, 1, 0, 0, 0, 0, []), some (.getfield 7, 3, 11, 0, 0, 0, [(0, 83)]), none, none, some (.iload_n 2, 1, 0, 0, 0, 0, []), some (.bipush 12, 2, 0, 0, 12, 0, []), none, some (.iadd, 1, 0, 0, 0, 0, []), 
  some (.aload_n 0, 1, 0, 0, 0, 0, []), some (.getfield 7, 3, 11, 0, 0, 0, [(0, 83)]), none, none, some (.iload_n 2, 1, 0, 0, 0, 0, []), some (.bipush 6, 2, 0, 0, 6, 0, []), none, some (.iadd, 1, 0, 0, 0, 0, []), 
  some (.iaload, 1, 0, 0, 0, 0, []), some (.iastore, 1, 0, 0, 0, 0, []), some (.iload_n 3, 1, 0, 0, 0, 0, []), some (.ifCond .le 11, 3, 111, 0, 0, 0, []), none, none, some (.aload_n 0, 1, 0, 0, 0, 0, []), 
  some (.iload_n 1, 1, 0, 0, 0, 0, []), some (.iload_n 3, 1, 0, 0, 0, 0, []), some (.invokevirtual 302, 3, 236, 2, 0, 0, [(0, 270)]), none, none, some (.istore 4, 2, 0, 0, 0, 0, []), none, 
  some (.iload_n 3, 1, 0, 0, 0, 0, []), some (.ireturn, 1, 0, 0, 0, 0, [])]
set_option maxRecDepth 100000 in
def cd238 : Cd := [some (.aload_n 0, 1, 0, 0, 0, 0, []), some (.iload_n 1, 1, 0, 0, 0, 0, []), some (.invokevirtual 114, 3, 169, 1, 0, 0, [(0, 208)]), none, none, some (.ifCond .eq 15, 3, 20, 0, 0, 0, []), none, none, 
  some (.iload_n 2, 1, 0, 0, 0, 0, []), some (.i2l, 1, 0, 0, 0, 0, []), some (.lconst 1, 1, 0, 0, 0, 1, []), some (.ldc2_w 96, 3, 0, 0, 0, 99, [(0, 2)]), none, none, some (.invokestatic 67, 3, 159, 3, 0, 0, [(0, 194)]), 
  none, none, some (.ifCond .ne 6, 3, 23, 0, 0, 0, []), none, none, some (.ldc 87, 2, 0, 0, -1000000001, 0, [(0, 24)]), none, some (.ireturn, 1, 0, 0, 0, 0, []), some (.aload_n 0, 1, 0, 0, 0, 0, []), 
  some (.iload_n 1, 1, 0, 0, 0, 0, []), some (.invokevirtual 124, 3, 172, 1, 0, 0, [(0, 214)]), none, none, some (.ifCond .eq 8, 3, 36, 0, 0, 0, []), none, none, some (.ldc 134, 2, 0, 0, -1000000002, 0, [(0, 27)]), none, 
  some (.goto 26, 3, 59, 0, 0, 0, []), none, none, some (.aload_n 0, 1, 0, 0, 0, 0, []), some (.getfield 7, 3, 11, 0, 0, 0, [(0, 83)]), none, none, some (.iconst 5, 1, 0, 0, 5, 0, []), some (.iaload, 1, 0, 0, 0, 0, []), 
  some (.bipush 40, 2, 0, 0, 40, 0, []), none, some (.if_icmp .ne 8, 3, 52, 0, 0, 0, []), none, none, some (.ldc 88, 2, 0, 0, -1000000003, 0, [(0, 25)]), none, some (.goto 10, 3, 59, 0, 0, 0, []), none, none, 
  some (.aload_n 0, 1, 0, 0, 0, 0, []), some (.iload_n 1, 1, 0, 0, 0, 0, []), some (.iload_n 2, 1, 0, 0, 0, 0, []), some (.ineg, 1, 0, 0, 0, 0, []), some (.invokevirtual 302, 3, 236, 2, 0, 0, [(0, 270)]), none, none, 
  some (.ireturn, 1, 0, 0, 0, 0, [])]
set_option maxRecDepth 100000 in
def cd239 : Cd := [some (.iload_n 1, 1, 0, 0, 0, 0, []), some (.i2l, 1, 0, 0, 0, 0, []), some (.lconst 0, 1, 0, 0, 0, 0, []), some (.aload_n 0, 1, 0, 0, 0, 0, []), some (.getfield 7, 3, 11, 0, 0, 0, [(0, 83)]), none, none, 
  some (.iconst 5, 1, 0, 0, 5, 0, []), some (.iaload, 1, 0, 0, 0, 0, []), some (.iconst 1, 1, 0, 0, 1, 0, []), some (.isub, 1, 0, 0, 0, 0, []), some (.i2l, 1, 0, 0, 0, 0, []), 
  some (.invokestatic 67, 3, 159, 3, 0, 0, [(0, 194)]), none, none, some (.ireturn, 1, 0, 0, 0, 0, [])]
set_option maxRecDepth 100000 in
def cd240 : Cd := [some (.aload_n 0, 1, 0, 0, 0, 0, []), some (.iload_n 1, 1, 0, 0, 0, 0, []), some (.invokevirtual 305, 3, 239, 1, 0, 0, [(0, 274)]), none, none, some (.ifCond .ne 6, 3, 11, 0, 0, 0, []), none, none, 
  some (.ldc 87, 2, 0, 0, -1000000001, 0, [(0, 24)]), none, some (.ireturn, 1, 0, 0, 0, 0, []), some (.aload_n 0, 1, 0, 0, 0, 0, []), some (.iload_n 1, 1, 0, 0, 0, 0, []), 
  some (.invokevirtual 299, 3, 167, 1, 0, 0, [(0, 271)]), none, none, some (.istore_n 2, 1, 0, 0, 0, 0, []), some (.aload_n 0, 1, 0, 0, 0, 0, []), some (.getfield 7, 3, 11, 0, 0, 0, [(0, 83)]), none, none, 
  some (.iload_n 2, 1, 0, 0, 0, 0, []), some (.iconst 1, 1, 0, 0, 1, 0, []), some (.iadd, 1, 0, 0, 0, 0, []), some (.iaload, 1, 0, 0, 0, 0, []), some (.ifCond .le 6, 3, 31, 0, 0, 0, []), none, none, 
  some (.ldc 165, 2, 0, 0, -1000000012, 0, [(0, 28)]), none, some (.ireturn, 1, 0, 0, 0, 0, []), some (.aload_n 0, 1, 0, 0, 0, 0, []), some (.getfield 7, 3, 11, 0, 0, 0, [(0, 83)]), none, none, 
  some (.iload_n 2, 1, 0, 0, 0, 0, []), some (.iconst 3, 1, 0, 0, 3, 0, []), some (.iadd, 1, 0, 0, 0, 0, []), some (.iaload, 1, 0, 0, 0, 0, []), some (.ifCond .ge 16, 3, 55, 0, 0, 0, []), none, none, 
  some (.aload_n 0, 1, 0, 0, 0, 0, []), some (.aload_n 0, 1, 0, 0, 0, 0, []), some (.getfield 7, 3, 11, 0, 0, 0, [(0, 83)]), none, none, some (.iload_n 2, 1, 0, 0, 0, 0, []), some (.iaload, 1, 0, 0, 0, 0, []), 
  some (.invokevirtual 124, 3, 172, 1, 0, 0, [(0, 214)]), none, none, some (.ifCond .eq 6, 3, 58, 0, 0, 0, []), none, none, some (.ldc 134, 2, 0, 0, -1000000002, 0, [(0, 27)]), none, some (.ireturn, 1, 0, 0, 0, 0, []), 
  some (.aload_n 0, 1, 0, 0, 0, 0, []), some (.getfield 7, 3, 11, 0, 0, 0, [(0, 83)]), none, none, some (.iload_n 2, 1, 0, 0, 0, 0, []), some (.iconst 3, 1, 0, 0, 3, 0, []), some (.iadd, 1, 0, 0, 0, 0, []), 
  some (.aload_n 0, 1, 0, 0, 0, 0, []), some (.getfield 7, 3, 11, 0, 0, 0, [(0, 83)]), none, none, some (.iconst 0, 1, 0, 0, 0, 0, []), some (.iaload, 1, 0, 0, 0, 0, []), some (.iastore, 1, 0, 0, 0, 0, []), 
  some (.iconst 1, 1, 0, 0, 1, 0, []), some (.ireturn, 1, 0, 0, 0, 0, [])]
set_option maxRecDepth 100000 in
def cd241 : Cd := [some (.aload_n 0, 1, 0, 0, 0, 0, []), some (.iload_n 1, 1, 0, 0, 0, 0, []), some (.invokevirtual 305, 3, 239, 1, 0, 0, [(0, 274)]), none, none, some (.ifCond .eq 15, 3, 20, 0, 0, 0, []), none, none, 
  some (.iload_n 2, 1, 0, 0, 0, 0, []), some (.i2l, 1, 0, 0, 0, 0, []), some (.lconst 0, 1, 0, 0, 0, 0, []), some (.ldc2_w 78, 3, 0, 0, 0, 3, [(0, 1)]), none, none, some (.invokestatic 67, 3, 159, 3, 0, 0, [(0, 194)]), 
  none, none, some (.ifCond .ne 6, 3, 23, 0, 0, 0, []), none, none, some (.ldc 87, 2, 0, 0, -1000000001, 0, [(0, 24)]), none, some (.ireturn, 1, 0, 0, 0, 0, []), some (.aload_n 0, 1, 0, 0, 0, 0, []), 
  some (.getfield 7, 3, 11, 0, 0, 0, [(0, 83)]), none, none, some (.aload_n 0, 1, 0, 0, 0, 0, []), some (.iload_n 1, 1, 0, 0, 0, 0, []), some (.invokevirtual 299, 3, 167, 1, 0, 0, [(0, 271)]), none, none, 
  some (.iload_n 2, 1, 0, 0, 0, 0, []), some (.iadd, 1, 0, 0, 0, 0, []), some (.iaload, 1, 0, 0, 0, 0, []), some (.istore_n 3, 1, 0, 0, 0, 0, []), some (.iload_n 2, 1, 0, 0, 0, 0, []), some (.iconst 3, 1, 0, 0, 3, 0, []), 
  some (.if_icmp .ne 10, 3, 48, 0, 0, 0, []), none, none, some (.iload_n 3, 1, 0, 0, 0, 0, []), some (.invokestatic 119, 3, 160, 1, 0, 0, [(0, 209)]), none, none, some (.goto 4, 3, 49, 0, 0, 0, []), none, none, 
  some (.iload_n 3, 1, 0, 0, 0, 0, []), some (.ireturn, 1, 0, 0, 0, 0, [])]
set_option maxRecDepth 100000 in
def cd242 : Cd := [some (.aload_n 0, 1, 0, 0, 0, 0, []), some (.getfield 7, 3, 11, 0, 0, 0, [(0, 83)]), none, none, some (.aload_n 0, 1, 0, 0, 0, 0, []), some (.iload_n 1, 1, 0, 0, 0, 0, []), 
  some (.invokevirtual 71, 3, 164, 1, 0, 0, [(0, 205)]), none, none, some (.iconst 2, 1, 0, 0, 2, 0, []), some (.iadd, 1, 0, 0, 0, 0, []), some (.iaload, 1, 0, 0, 0, 0, []), some (.istore_n 3, 1, 0, 0, 0, 0, []), 
  some (.iconst 0, 1, 0, 0, 0, 0, []), some (.istore 4, 2, 0, 0, 0, 0, []), none, some (.iload 4, 2, 0, 0, 0, 0, []), none, some (.aload_n 0, 1, 0, 0, 0, 0, []), some (.getfield 7, 3, 11, 0, 0, 0, [(0, 83)]), none, none, 
  some (.iconst 5, 1, 0, 0, 5, 0, []), some (.iaload, 1, 0, 0, 0, 0, []), some (.if_icmp .ge 94, 3, 118, 0, 0, 0, []), none, none, some (.aload_n 0, 1, 0, 0, 0, 0, []), some (.iload 4, 2, 0, 0, 0, 0, []), none, 
  some (.invokevirtual 299, 3, 167, 1, 0, 0, [(0, 271)]), none, none, some (.istore 5, 2, 0, 0, 0, 0, []), none, some (.aload_n 0, 1, 0, 0, 0, 0, []), some (.getfield 7, 3, 11, 0, 0, 0, [(0, 83)]), none, none, 
  some (.iload 5, 2, 0, 0, 0, 0, []), none, some (.iaload, 1, 0, 0, 0, 0, []), some (.iload_n 1, 1, 0, 0, 0, 0, []), some (.if_icmp .ne 45, 3, 88, 0, 0, 0, []), none, none, some (.aload_n 0, 1, 0, 0, 0, 0, []), 
  some (.getfield 7, 3, 11, 0, 0, 0, [(0, 83)]), none, none, some (.iload 5, 2, 0, 0, 0, 0, []), none, some (.iconst 2, 1, 0, 0, 2, 0, []), some (.iadd, 1, 0, 0, 0, 0, []), some (.iaload, 1, 0, 0, 0, 0, []), 
  some (.iload_n 2, 1, 0, 0, 0, 0, []), some (.if_icmp .gt 32, 3, 88, 0, 0, 0, []), none, none, some (.aload_n 0, 1, 0, 0, 0, 0, []), some (.getfield 7, 3, 11, 0, 0, 0, [(0, 83)]), none, none, 
  some (.iload 5, 2, 0, 0, 0, 0, []), none, some (.iconst 3, 1, 0, 0, 3, 0, []), some (.iadd, 1, 0, 0, 0, 0, []), some (.iaload, 1, 0, 0, 0, 0, []), some (.ifCond .lt 16, 3, 84, 0, 0, 0, []), none, none, 
  some (.aload_n 0, 1, 0, 0, 0, 0, []), some (.getfield 7, 3, 11, 0, 0, 0, [(0, 83)]), none, none, some (.iload 5, 2, 0, 0, 0, 0, []), none, some (.iconst 3, 1, 0, 0, 3, 0, []), some (.iadd, 1, 0, 0, 0, 0, []), 
  some (.iaload, 1, 0, 0, 0, 0, []), some (.iload_n 2, 1, 0, 0, 0, 0, []), some (.if_icmp .le 7, 3, 88, 0, 0, 0, []), none, none, some (.iconst 1, 1, 0, 0, 1, 0, []), some (.goto 4, 3, 89, 0, 0, 0, []), none, none, 
  some (.iconst 0, 1, 0, 0, 0, 0, []), some (.istore 6, 2, 0, 0, 0, 0, []), none, some (.iload_n 3, 1, 0, 0, 0, 0, []), some (.iload 6, 2, 0, 0, 0, 0, []), none, some (.ifCond .eq 15, 3, 109, 0, 0, 0, []), none, none, 
  some (.aload_n 0, 1, 0, 0, 0, 0, []), some (.getfield 7, 3, 11, 0, 0, 0, [(0, 83)]), none, none, some (.iload 5, 2, 0, 0, 0, 0, []), none, some (.iconst 1, 1, 0, 0, 1, 0, []), some (.iadd, 1, 0, 0, 0, 0, []), 
  some (.iaload, 1, 0, 0, 0, 0, []), some (.goto 4, 3, 110, 0, 0, 0, []), none, none, some (.iconst 0, 1, 0, 0, 0, 0, []), some (.isub, 1, 0, 0, 0, 0, []), some (.istore_n 3, 1, 0, 0, 0, 0, []), 
  some (.iinc 4 1, 3, 0, 0, 1, 0, []), none, none, some (.goto (-99), 3, 16, 0, 0, 0, []), none, none, some (.iload_n 3, 1, 0, 0, 0, 0, []), some (.ireturn, 1, 0, 0, 0, 0, [])]
set_option maxRecDepth 100000 in
def cd243 : Cd := [some (.aload_n 0, 1, 0, 0, 0, 0, []), some (.iload_n 1, 1, 0, 0, 0, 0, []), some (.invokevirtual 114, 3, 169, 1, 0, 0, [(0, 208)]), none, none, some (.ifCond .eq 24, 3, 29, 0, 0, 0, []), none, none, 
  some (.iload_n 2, 1, 0, 0, 0, 0, []), some (.i2l, 1, 0, 0, 0, 0, []), some (.lconst 0, 1, 0, 0, 0, 0, []), some (.ldc2_w 112, 3, 0, 0, 0, 999, [(0, 4)]), none, none, some (.invokestatic 67, 3, 159, 3, 0, 0, [(0, 194)]), 
  none, none, some (.ifCond .eq 12, 3, 29, 0, 0, 0, []), none, none, some (.aload_n 0, 1, 0, 0, 0, 0, []), some (.iload_n 1, 1, 0, 0, 0, 0, []), some (.iload_n 2, 1, 0, 0, 0, 0, []), 
  some (.invokevirtual 308, 3, 242, 2, 0, 0, [(0, 277)]), none, none, some (.goto 5, 3, 31, 0, 0, 0, []), none, none, some (.ldc 87, 2, 0, 0, -1000000001, 0, [(0, 24)]), none, some (.ireturn, 1, 0, 0, 0, 0, [])]
set_option maxRecDepth 100000 in
def cd244 : Cd := [some (.aload_n 0, 1, 0, 0, 0, 0, []), some (.iload_n 1, 1, 0, 0, 0, 0, []), some (.invokevirtual 71, 3, 164, 1, 0, 0, [(0, 205)]), none, none, some (.istore_n 2, 1, 0, 0, 0, 0, []), some (.aload_n 0, 1, 0, 0, 0, 0, []), 
  some (.aload_n 0, 1, 0, 0, 0, 0, []), some (.getfield 7, 3, 11, 0, 0, 0, [(0, 83)]), none, none, some (.iload_n 2, 1, 0, 0, 0, 0, []), some (.bipush 8, 2, 0, 0, 8, 0, []), none, some (.iadd, 1, 0, 0, 0, 0, []), 
  some (.iaload, 1, 0, 0, 0, 0, []), some (.invokevirtual 89, 3, 163, 1, 0, 0, [(0, 195)]), none, none, some (.istore_n 3, 1, 0, 0, 0, 0, []), some (.aload_n 0, 1, 0, 0, 0, 0, []), 
  some (.getfield 7, 3, 11, 0, 0, 0, [(0, 83)]), none, none, some (.iload_n 2, 1, 0, 0, 0, 0, []), some (.bipush 9, 2, 0, 0, 9, 0, []), none, some (.iadd, 1, 0, 0, 0, 0, []), some (.iaload, 1, 0, 0, 0, 0, []), 
  some (.aload_n 0, 1, 0, 0, 0, 0, []), some (.getfield 7, 3, 11, 0, 0, 0, [(0, 83)]), none, none, some (.iconst 0, 1, 0, 0, 0, 0, []), some (.iaload, 1, 0, 0, 0, 0, []), some (.if_icmp .ne 4, 3, 39, 0, 0, 0, []), none, 
  none, some (.return_, 1, 0, 0, 0, 0, []), some (.aload_n 0, 1, 0, 0, 0, 0, []), some (.getfield 7, 3, 11, 0, 0, 0, [(0, 83)]), none, none, some (.iload_n 3, 1, 0, 0, 0, 0, []), some (.iconst 4, 1, 0, 0, 4, 0, []), 
  some (.iadd, 1, 0, 0, 0, 0, []), some (.iaload, 1, 0, 0, 0, 0, []), some (.ifCond .le 26, 3, 73, 0, 0, 0, []), none, none, some (.aload_n 0, 1, 0, 0, 0, 0, []), some (.iload_n 1, 1, 0, 0, 0, 0, []), 
  some (.bipush 10, 2, 0, 0, 10, 0, []), none, some (.aload_n 0, 1, 0, 0, 0, 0, []), some (.iconst 1, 1, 0, 0, 1, 0, []), some (.aload_n 0, 1, 0, 0, 0, 0, []), some (.getfield 7, 3, 11, 0, 0, 0, [(0, 83)]), none, none, 
  some (.iload_n 2, 1, 0, 0, 0, 0, []), some (.iconst 1, 1, 0, 0, 1, 0, []), some (.iadd, 1, 0, 0, 0, 0, []), some (.iaload, 1, 0, 0, 0, 0, []), some (.iconst 0, 1, 0, 0, 0, 0, []), some (.iconst 0, 1, 0, 0, 0, 0, []), 
  some (.invokevirtual 279, 3, 231, 4, 0, 0, [(0, 261)]), none, none, some (.invokevirtual 296, 3, 174, 3, 0, 0, [(0, 267)]), none, none, some (.return_, 1, 0, 0, 0, 0, []), some (.aload_n 0, 1, 0, 0, 0, 0, []), 
  some (.getfield 7, 3, 11, 0, 0, 0, [(0, 83)]), none, none, some (.iload_n 3, 1, 0, 0, 0, 0, []), some (.iconst 3, 1, 0, 0, 3, 0, []), some (.iadd, 1, 0, 0, 0, 0, []), some (.iaload, 1, 0, 0, 0, 0, []), 
  some (.aload_n 0, 1, 0, 0, 0, 0, []), some (.getfield 7, 3, 11, 0, 0, 0, [(0, 83)]), none, none, some (.iload_n 2, 1, 0, 0, 0, 0, []), some (.iconst 1, 1, 0, 0, 1, 0, []), some (.iadd, 1, 0, 0, 0, 0, []), 
  some (.iaload, 1, 0, 0, 0, 0, []), some (.iadd, 1, 0, 0, 0, 0, []), some (.istore 4, 2, 0, 0, 0, 0, []), none, some (.aload_n 0, 1, 0, 0, 0, 0, []), some (.iload_n 1, 1, 0, 0, 0, 0, []), 
  some (.bipush 10, 2, 0, 0, 10, 0, []), none, some (.aload_n 0, 1, 0, 0, 0, 0, []), some (.iconst 0, 1, 0, 0, 0, 0, []), some (.iload 4, 2, 0, 0, 0, 0, []), none, some (.aload_n 0, 1, 0, 0, 0, 0, []), 
  some (.getfield 7, 3, 11, 0, 0, 0, [(0, 83)]), none, none, some (.iload_n 2, 1, 0, 0, 0, 0, []), some (.iconst 1, 1, 0, 0, 1, 0, []), some (.iadd, 1, 0, 0, 0, 0, []), some (.iaload, 1, 0, 0, 0, 0, []), 
  some (.aload_n 0, 1, 0, 0, 0, 0, []), some (.getfield 7, 3, 11, 0, 0, 0, [(0, 83)]), none, none, some (.iload_n 2, 1, 0, 0, 0, 0, []), some (.iconst 0, 1, 0, 0, 0, 0, []), some (.iadd, 1, 0, 0, 0, 0, []), 
  some (.iaload, 1, 0, 0, 0, 0, []), some (.invokevirtual 279, 3, 231, 4, 0, 0, [(0, 261)]), none, none, some (.invokevirtual 296, 3, 174, 3, 0, 0, [(0, 267)]), none, none, some (.aload_n 0, 1, 0, 0, 0, 0, []), 
  some (.getfield 7, 3, 11, 0, 0, 0, [(0, 83)]), none, none, some (.iload_n 2, 1, 0, 0, 0, 0, []), some (.bipush 6, 2, 0, 0, 6, 0, []), none, some (.iadd, 1, 0, 0, 0, 0, []), some (.dup2, 1, 0, 0, 0, 0, []), 
  some (.iaload, 1, 0, 0, 0, 0, []), some (.iconst 1, 1, 0, 0, 1, 0, []), some (.iadd, 1, 0, 0, 0, 0, []), some (.iastore, 1, 0, 0, 0, 0, []), some (.aload_n 0, 1, 0, 0, 0, 0, []), 
  some (.getfield 7, 3, 11, 0, 0, 0, [(0, 83)]), none, none, some (.iload_n 2, 1, 0, 0, 0, 0, []), some (.bipush 7, 2, 0, 0, 7, 0, []), none, some (.iadd, 1, 0, 0, 0, 0, []), some (.dup2, 1, 0, 0, 0, 0, []), 
  some (.iaload, 1, 0, 0, 0, 0, []), some (.iconst 1, 1, 0, 0, 1, 0, []), some (.iadd, 1, 0, 0, 0, 0, []), some (.iastore, 1, 0, 0, 0, 0, []), some (.aload_n 0, 1, 0, 0, 0, 0, []), 
  some (.getfield 7, 3, 11, 0, 0, 0, [(0, 83)]), none, none, some (.iload_n 2, 1, 0, 0, 0, 0, []), some (.bipush 7, 2, 0, 0, 7, 0, []), none, some (.iadd, 1, 0, 0, 0, 0, []), some (.iaload, 1, 0, 0, 0, 0, []), 
  some (.bipush 10, 2, 0, 0, 10, 0, []), none, some (.if_icmp .ne 35, 3, 194, 0, 0, 0, []), none, none, some (.aload_n 0, 1, 0, 0, 0, 0, []), some (.getfield 7, 3, 11, 0, 0, 0, [(0, 83)]), none, none, 
  some (.iload_n 2, 1, 0, 0, 0, 0, []), some (.iconst 1, 1, 0, 0, 1, 0, []), some (.iadd, 1, 0, 0, 0, 0, []), some (.iconst 3, 1, 0, 0, 3, 0, []), some (.aload_n 0, 1, 0, 0, 0, 0, []), 
  some (.getfield 7, 3, 11, 0, 0, 0, [(0, 83)]), none, none, some (.iload_n 2, 1, 0, 0, 0, 0, []), some (.iconst 1, 1, 0, 0, 1, 0, []), some (.iadd, 1, 0, 0, 0, 0, []), some (.iaload, 1, 0, 0, 0, 0, []), 
  some (.iconst 1, 1, 0, 0, 1, 0, []), some (.iadd, 1, 0, 0, 0, 0, []), some (.invokestatic 81, 3, 161, 2, 0, 0, [(0, 264)]), none, none, some (.iastore, 1, 0, 0, 0, 0, []), some (.aload_n 0, 1, 0, 0, 0, 0, []), 
  some (.getfield 7, 3, 11, 0, 0, 0, [(0, 83)]), none, none, some (.iload_n 2, 1, 0, 0, 0, 0, []), some (.bipush 7, 2, 0, 0, 7, 0, []), none, some (.iadd, 1, 0, 0, 0, 0, []), some (.iconst 0, 1, 0, 0, 0, 0, []), 
  some (.iastore, 1, 0, 0, 0, 0, []), some (.aload_n 0, 1, 0, 0, 0, 0, []), some (.getfield 7, 3, 11, 0, 0, 0, [(0, 83)]), none, none, some (.iload_n 3, 1, 0, 0, 0, 0, []), some (.bipush 6, 2, 0, 0, 6, 0, []), none, 
  some (.iadd, 1, 0, 0, 0, 0, []), some (.dup2, 1, 0, 0, 0, 0, []), some (.iaload, 1, 0, 0, 0, 0, []), some (.iload 4, 2, 0, 0, 0, 0, []), none, some (.iadd, 1, 0, 0, 0, 0, []), some (.iastore, 1, 0, 0, 0, 0, []), 
  some (.return_, 1, 0, 0, 0, 0, [])]
set_option maxRecDepth 100000 in
def cd245 : Cd := [some (.aload_n 0, 1, 0, 0, 0, 0, []), some (.iload_n 1, 1, 0, 0, 0, 0, []), some (.invokevirtual 166, 3, 205, 1, 0, 0, [(0, 235)]), none, none, some (.istore_n 2, 1, 0, 0, 0, 0, []), some (.iload_n 2, 1, 0, 0, 0, 0, []), 
  some (.ifCond .lt 87, 3, 94, 0, 0, 0, []), none, none, some (.aload_n 0, 1, 0, 0, 0, 0, []), some (.getfield 7, 3, 11, 0, 0, 0, [(0, 83)]), none, none, some (.aload_n 0, 1, 0, 0, 0, 0, []), 
  some (.iload_n 1, 1, 0, 0, 0, 0, []), some (.invokevirtual 89, 3, 163, 1, 0, 0, [(0, 195)]), none, none, some (.bipush 6, 2, 0, 0, 6, 0, []), none, some (.iadd, 1, 0, 0, 0, 0, []), some (.iaload, 1, 0, 0, 0, 0, []), 
  some (.aload_n 0, 1, 0, 0, 0, 0, []), some (.getfield 7, 3, 11, 0, 0, 0, [(0, 83)]), none, none, some (.aload_n 0, 1, 0, 0, 0, 0, []), some (.iload_n 2, 1, 0, 0, 0, 0, []), 
  some (.invokevirtual 75, 3, 165, 1, 0, 0, [(0, 203)]), none, none, some (.iconst 2, 1, 0, 0, 2, 0, []), some (.iadd, 1, 0, 0, 0, 0, []), some (.iaload, 1, 0, 0, 0, 0, []), some (.if_icmp .lt 59, 3, 94, 0, 0, 0, []), none, 
  none, some (.aload_n 0, 1, 0, 0, 0, 0, []), some (.getfield 7, 3, 11, 0, 0, 0, [(0, 83)]), none, none, some (.aload_n 0, 1, 0, 0, 0, 0, []), some (.iload_n 1, 1, 0, 0, 0, 0, []), 
  some (.invokevirtual 89, 3, 163, 1, 0, 0, [(0, 195)]), none, none, some (.bipush 6, 2, 0, 0, 6, 0, []), none, some (.iadd, 1, 0, 0, 0, 0, []), some (.dup2, 1, 0, 0, 0, 0, []), some (.iaload, 1, 0, 0, 0, 0, []), 
  some (.aload_n 0, 1, 0, 0, 0, 0, []), some (.getfield 7, 3, 11, 0, 0, 0, [(0, 83)]), none, none, some (.aload_n 0, 1, 0, 0, 0, 0, []), some (.iload_n 2, 1, 0, 0, 0, 0, []), 
  some (.invokevirtual 75, 3, 165, 1, 0, 0, [(0, 203)]), none, none, some (.iconst 2, 1, 0, 0, 2, 0, []), some (.iadd, 1, 0, 0, 0, 0, []), some (.iaload, 1, 0, 0, 0, 0, []), some (.isub, 1, 0, 0, 0, 0, []), 
  some (.iastore, 1, 0, 0, 0, 0, []), some (.aload_n 0, 1, 0, 0, 0, 0, []), some (.getfield 7, 3, 11, 0, 0, 0, [(0, 83)]), none, none, some (.aload_n 0, 1, 0, 0, 0, 0, []), some (.iload_n 2, 1, 0, 0, 0, 0, []), 
  some (.invokevirtual 75, 3, 165, 1, 0, 0, [(0, 203)]), none, none, some (.bipush 6, 2, 0, 0, 6, 0, []), none, some (.iadd, 1, 0, 0, 0, 0, []), some (.aload_n 0, 1, 0, 0, 0, 0, []), 
  some (.getfield 7, 3, 11, 0, 0, 0, [(0, 83)]), none, none, some (.iconst 0, 1, 0, 0, 0, 0, []), some (.iaload, 1, 0, 0, 0, 0, []), some (.iastore, 1, 0, 0, 0, 0, []), some (.aload_n 0, 1, 0, 0, 0, 0, []), 
  some (.iload_n 1, 1, 0, 0, 0, 0, []), some (.invokevirtual 166, 3, 205, 1, 0, 0, [(0, 235)]), none, none, some (.istore_n 2, 1, 0, 0, 0, 0, []), some (.goto (-85), 3, 6, 0, 0, 0, []), none, none, 
  some (.return_, 1, 0, 0, 0, 0, [])]
set_option maxRecDepth 100000 in
def cd246 : Cd := [some (.aload_n 0, 1, 0, 0, 0, 0, []), some (.iload_n 1, 1, 0, 0, 0, 0, []), some (.invokevirtual 71, 3, 164, 1, 0, 0, [(0, 205)]), none, none, some (.istore_n 2, 1, 0, 0, 0, 0, []), some (.aload_n 0, 1, 0, 0, 0, 0, []), 
  some (.getfield 7, 3, 11, 0, 0, 0, [(0, 83)]), none, none, some (.iload_n 2, 1, 0, 0, 0, 0, []), some (.bipush 11, 2, 0, 0, 11, 0, []), none, some (.iadd, 1, 0, 0, 0, 0, []), some (.iconst 1, 1, 0, 0, 1, 0, []), 
  some (.iastore, 1, 0, 0, 0, 0, []), some (.aload_n 0, 1, 0, 0, 0, 0, []), some (.iload_n 1, 1, 0, 0, 0, 0, []), some (.iconst 4, 1, 0, 0, 4, 0, []), some (.aload_n 0, 1, 0, 0, 0, 0, []), 
  some (.getfield 7, 3, 11, 0, 0, 0, [(0, 83)]), none, none, some (.iload_n 2, 1, 0, 0, 0, 0, []), some (.bipush 10, 2, 0, 0, 10, 0, []), none, some (.iadd, 1, 0, 0, 0, 0, []), some (.iaload, 1, 0, 0, 0, 0, []), 
  some (.aload_n 0, 1, 0, 0, 0, 0, []), some (.getfield 7, 3, 11, 0, 0, 0, [(0, 83)]), none, none, some (.iload_n 2, 1, 0, 0, 0, 0, []), some (.iconst 5, 1, 0, 0, 5, 0, []), some (.iadd, 1, 0, 0, 0, 0, []), 
  some (.iaload, 1, 0, 0, 0, 0, []), some (.iadd, 1, 0, 0, 0, 0, []), some (.invokevirtual 296, 3, 174, 3, 0, 0, [(0, 267)]), none, none, some (.aload_n 0, 1, 0, 0, 0, 0, []), some (.getfield 7, 3, 11, 0, 0, 0, [(0, 83)]), 
  none, none, some (.iload_n 2, 1, 0, 0, 0, 0, []), some (.bipush 10, 2, 0, 0, 10, 0, []), none, some (.iadd, 1, 0, 0, 0, 0, []), some (.iconst 0, 1, 0, 0, 0, 0, []), some (.iastore, 1, 0, 0, 0, 0, []), 
  some (.aload_n 0, 1, 0, 0, 0, 0, []), some (.getfield 7, 3, 11, 0, 0, 0, [(0, 83)]), none, none, some (.iload_n 2, 1, 0, 0, 0, 0, []), some (.iconst 5, 1, 0, 0, 5, 0, []), some (.iadd, 1, 0, 0, 0, 0, []), 
  some (.iconst 0, 1, 0, 0, 0, 0, []), some (.iastore, 1, 0, 0, 0, 0, []), some (.aload_n 0, 1, 0, 0, 0, 0, []), some (.getfield 7, 3, 11, 0, 0, 0, [(0, 83)]), none, none, some (.iload_n 2, 1, 0, 0, 0, 0, []), 
  some (.bipush 8, 2, 0, 0, 8, 0, []), none, some (.iadd, 1, 0, 0, 0, 0, []), some (.iconst (-1), 1, 0, 0, -1, 0, []), some (.iastore, 1, 0, 0, 0, 0, []), some (.iconst 0, 1, 0, 0, 0, 0, []), 
  some (.istore_n 3, 1, 0, 0, 0, 0, []), some (.iload_n 3, 1, 0, 0, 0, 0, []), some (.aload_n 0, 1, 0, 0, 0, 0, []), some (.getfield 7, 3, 11, 0, 0, 0, [(0, 83)]), none, none, some (.iconst 3, 1, 0, 0, 3, 0, []), 
  some (.iaload, 1, 0, 0, 0, 0, []), some (.if_icmp .ge 62, 3, 140, 0, 0, 0, []), none, none, some (.aload_n 0, 1, 0, 0, 0, 0, []), some (.iload_n 3, 1, 0, 0, 0, 0, []), 
  some (.invokevirtual 75, 3, 165, 1, 0, 0, [(0, 203)]), none, none, some (.istore 4, 2, 0, 0, 0, 0, []), none, some (.aload_n 0, 1, 0, 0, 0, 0, []), some (.getfield 7, 3, 11, 0, 0, 0, [(0, 83)]), none, none, 
  some (.iload 4, 2, 0, 0, 0, 0, []), none, some (.iconst 4, 1, 0, 0, 4, 0, []), some (.iadd, 1, 0, 0, 0, 0, []), some (.iaload, 1, 0, 0, 0, 0, []), some (.iconst 1, 1, 0, 0, 1, 0, []), 
  some (.if_icmp .ne 36, 3, 134, 0, 0, 0, []), none, none, some (.aload_n 0, 1, 0, 0, 0, 0, []), some (.getfield 7, 3, 11, 0, 0, 0, [(0, 83)]), none, none, some (.iload 4, 2, 0, 0, 0, 0, []), none, 
  some (.iconst 5, 1, 0, 0, 5, 0, []), some (.iadd, 1, 0, 0, 0, 0, []), some (.iaload, 1, 0, 0, 0, 0, []), some (.iload_n 1, 1, 0, 0, 0, 0, []), some (.if_icmp .ne 23, 3, 134, 0, 0, 0, []), none, none, 
  some (.aload_n 0, 1, 0, 0, 0, 0, []), some (.getfield 7, 3, 11, 0, 0, 0, [(0, 83)]), none, none, some (.iload 4, 2, 0, 0, 0, 0, []), none, some (.iconst 4, 1, 0, 0, 4, 0, []), some (.iadd, 1, 0, 0, 0, 0, []), 
  some (.iconst 2, 1, 0, 0, 2, 0, []), some (.iastore, 1, 0, 0, 0, 0, []), some (.aload_n 0, 1, 0, 0, 0, 0, []), some (.getfield 7, 3, 11, 0, 0, 0, [(0, 83)]), none, none, some (.iload 4, 2, 0, 0, 0, 0, []), none, 
  some (.iconst 5, 1, 0, 0, 5, 0, []), some (.iadd, 1, 0, 0, 0, 0, []), some (.iconst (-1), 1, 0, 0, -1, 0, []), some (.iastore, 1, 0, 0, 0, 0, []), some (.iinc 3 1, 3, 0, 0, 1, 0, []), none, none, 
  some (.goto (-66), 3, 71, 0, 0, 0, []), none, none, some (.return_, 1, 0, 0, 0, 0, [])]
set_option maxRecDepth 100000 in
def cd247 : Cd := [some (.iconst 0, 1, 0, 0, 0, 0, []), some (.istore_n 1, 1, 0, 0, 0, 0, []), some (.iload_n 1, 1, 0, 0, 0, 0, []), some (.aload_n 0, 1, 0, 0, 0, 0, []), some (.getfield 7, 3, 11, 0, 0, 0, [(0, 83)]), none, none, 
  some (.iconst 2, 1, 0, 0, 2, 0, []), some (.iaload, 1, 0, 0, 0, 0, []), some (.if_icmp .ge 38, 3, 47, 0, 0, 0, []), none, none, some (.aload_n 0, 1, 0, 0, 0, 0, []), some (.iload_n 1, 1, 0, 0, 0, 0, []), 
  some (.invokevirtual 124, 3, 172, 1, 0, 0, [(0, 214)]), none, none, some (.ifCond .ne 24, 3, 41, 0, 0, 0, []), none, none, some (.aload_n 0, 1, 0, 0, 0, 0, []), some (.getfield 7, 3, 11, 0, 0, 0, [(0, 83)]), none, none, 
  some (.aload_n 0, 1, 0, 0, 0, 0, []), some (.iload_n 1, 1, 0, 0, 0, 0, []), some (.invokevirtual 71, 3, 164, 1, 0, 0, [(0, 205)]), none, none, some (.bipush 8, 2, 0, 0, 8, 0, []), none, some (.iadd, 1, 0, 0, 0, 0, []), 
  some (.iaload, 1, 0, 0, 0, 0, []), some (.ifCond .lt 8, 3, 41, 0, 0, 0, []), none, none, some (.aload_n 0, 1, 0, 0, 0, 0, []), some (.iload_n 1, 1, 0, 0, 0, 0, []), some (.invokevirtual 311, 3, 244, 1, 0, 0, [(0, 280)]), 
  none, none, some (.iinc 1 1, 3, 0, 0, 1, 0, []), none, none, some (.goto (-42), 3, 2, 0, 0, 0, []), none, none, some (.iconst 0, 1, 0, 0, 0, 0, []), some (.istore_n 1, 1, 0, 0, 0, 0, []), 
  some (.iload_n 1, 1, 0, 0, 0, 0, []), some (.aload_n 0, 1, 0, 0, 0, 0, []), some (.getfield 7, 3, 11, 0, 0, 0, [(0, 83)]), none, none, some (.iconst 1, 1, 0, 0, 1, 0, []), some (.iaload, 1, 0, 0, 0, 0, []), 
  some (.if_icmp .ge 14, 3, 70, 0, 0, 0, []), none, none, some (.aload_n 0, 1, 0, 0, 0, 0, []), some (.iload_n 1, 1, 0, 0, 0, 0, []), some (.invokevirtual 314, 3, 245, 1, 0, 0, [(0, 281)]), none, none, 
  some (.iinc 1 1, 3, 0, 0, 1, 0, []), none, none, some (.goto (-18), 3, 49, 0, 0, 0, []), none, none, some (.iconst 0, 1, 0, 0, 0, 0, []), some (.istore_n 1, 1, 0, 0, 0, 0, []), some (.iload_n 1, 1, 0, 0, 0, 0, []), 
  some (.aload_n 0, 1, 0, 0, 0, 0, []), some (.getfield 7, 3, 11, 0, 0, 0, [(0, 83)]), none, none, some (.iconst 1, 1, 0, 0, 1, 0, []), some (.iaload, 1, 0, 0, 0, 0, []), some (.if_icmp .ge 44, 3, 123, 0, 0, 0, []), none, 
  none, some (.aload_n 0, 1, 0, 0, 0, 0, []), some (.getfield 7, 3, 11, 0, 0, 0, [(0, 83)]), none, none, some (.aload_n 0, 1, 0, 0, 0, 0, []), some (.iload_n 1, 1, 0, 0, 0, 0, []), 
  some (.invokevirtual 89, 3, 163, 1, 0, 0, [(0, 195)]), none, none, some (.iconst 4, 1, 0, 0, 4, 0, []), some (.iadd, 1, 0, 0, 0, 0, []), some (.dup2, 1, 0, 0, 0, 0, []), some (.iaload, 1, 0, 0, 0, 0, []), 
  some (.aload_n 0, 1, 0, 0, 0, 0, []), some (.getfield 7, 3, 11, 0, 0, 0, [(0, 83)]), none, none, some (.aload_n 0, 1, 0, 0, 0, 0, []), some (.iload_n 1, 1, 0, 0, 0, 0, []), 
  some (.invokevirtual 89, 3, 163, 1, 0, 0, [(0, 195)]), none, none, some (.iconst 4, 1, 0, 0, 4, 0, []), some (.iadd, 1, 0, 0, 0, 0, []), some (.iaload, 1, 0, 0, 0, 0, []), some (.ifCond .le 7, 3, 114, 0, 0, 0, []), none, 
  none, some (.iconst 1, 1, 0, 0, 1, 0, []), some (.goto 4, 3, 115, 0, 0, 0, []), none, none, some (.iconst 0, 1, 0, 0, 0, 0, []), some (.isub, 1, 0, 0, 0, 0, []), some (.iastore, 1, 0, 0, 0, 0, []), 
  some (.iinc 1 1, 3, 0, 0, 1, 0, []), none, none, some (.goto (-48), 3, 72, 0, 0, 0, []), none, none, some (.iconst 0, 1, 0, 0, 0, 0, []), some (.istore_n 1, 1, 0, 0, 0, 0, []), some (.iload_n 1, 1, 0, 0, 0, 0, []), 
  some (.aload_n 0, 1, 0, 0, 0, 0, []), some (.getfield 7, 3, 11, 0, 0, 0, [(0, 83)]), none, none, some (.iconst 2, 1, 0, 0, 2, 0, []), some (.iaload, 1, 0, 0, 0, 0, []), some (.if_icmp .ge 42, 3, 174, 0, 0, 0, []), none, 
  none, some (.aload_n 0, 1, 0, 0, 0, 0, []), some (.iload_n 1, 1, 0, 0, 0, 0, []), some (.invokevirtual 124, 3, 172, 1, 0, 0, [(0, 214)]), none, none, some (.ifCond .ne 28, 3, 168, 0, 0, 0, []), none, none, 
  some (.aload_n 0, 1, 0, 0, 0, 0, []), some (.iload_n 1, 1, 0, 0, 0, 0, []), some (.aload_n 0, 1, 0, 0, 0, 0, []), some (.getfield 7, 3, 11, 0, 0, 0, [(0, 83)]), none, none, some (.iconst 0, 1, 0, 0, 0, 0, []), 
  some (.iaload, 1, 0, 0, 0, 0, []), some (.invokevirtual 308, 3, 242, 2, 0, 0, [(0, 277)]), none, none, some (.aload_n 0, 1, 0, 0, 0, 0, []), some (.getfield 7, 3, 11, 0, 0, 0, [(0, 83)]), none, none, 
  some (.iconst 0, 1, 0, 0, 0, 0, []), some (.iaload, 1, 0, 0, 0, 0, []), some (.if_icmp .gt 8, 3, 168, 0, 0, 0, []), none, none, some (.aload_n 0, 1, 0, 0, 0, 0, []), some (.iload_n 1, 1, 0, 0, 0, 0, []), 
  some (.invokevirtual 317, 3, 246, 1, 0, 0, [(0, 282)]), none, none, some (.iinc 1 1, 3, 0, 0, 1, 0, []), none, none, some (.goto (-46), 3, 125, 0, 0, 0, []), none, none, some (.aload_n 0, 1, 0, 0, 0, 0, []), 
  some (.getfield 7, 3, 11, 0, 0, 0, [(0, 83)]), none, none, some (.iconst 0, 1, 0, 0, 0, 0, []), some (.dup2, 1, 0, 0, 0, 0, []), some (.iaload, 1, 0, 0, 0, 0, []), some (.iconst 1, 1, 0, 0, 1, 0, []), 
  some (.iadd, 1, 0, 0, 0, 0, []), some (.iastore, 1, 0, 0, 0, 0, []), some (.return_, 1, 0, 0, 0, 0, [])]
set_option maxRecDepth 100000 in
def cd248 : Cd := [some (.iload_n 1, 1, 0, 0, 0, 0, []), some (.i2l, 1, 0, 0, 0, 0, []), some (.lconst 1, 1, 0, 0, 0, 1, []), some (.ldc2_w 320, 3, 0, 0, 0, 60, [(0, 13)]), none, none, some (.invokestatic 67, 3, 159, 3, 0, 0, [(0, 194)]), 
  none, none, some (.ifCond .ne 6, 3, 15, 0, 0, 0, []), none, none, some (.ldc 87, 2, 0, 0, -1000000001, 0, [(0, 24)]), none, some (.ireturn, 1, 0, 0, 0, 0, []), some (.aload_n 0, 1, 0, 0, 0, 0, []), 
  some (.getfield 7, 3, 11, 0, 0, 0, [(0, 83)]), none, none, some (.iconst 0, 1, 0, 0, 0, 0, []), some (.iaload, 1, 0, 0, 0, 0, []), some (.iload_n 1, 1, 0, 0, 0, 0, []), some (.iadd, 1, 0, 0, 0, 0, []), 
  some (.sipush 999, 3, 0, 0, 999, 0, []), none, none, some (.if_icmp .le 6, 3, 32, 0, 0, 0, []), none, none, some (.ldc 88, 2, 0, 0, -1000000003, 0, [(0, 25)]), none, some (.ireturn, 1, 0, 0, 0, 0, []), 
  some (.iconst 0, 1, 0, 0, 0, 0, []), some (.istore_n 2, 1, 0, 0, 0, 0, []), some (.iload_n 2, 1, 0, 0, 0, 0, []), some (.iload_n 1, 1, 0, 0, 0, 0, []), some (.if_icmp .ge 13, 3, 49, 0, 0, 0, []), none, none, 
  some (.aload_n 0, 1, 0, 0, 0, 0, []), some (.invokevirtual 322, 3, 247, 0, 0, 0, [(0, 279)]), none, none, some (.iinc 2 1, 3, 0, 0, 1, 0, []), none, none, some (.goto (-12), 3, 34, 0, 0, 0, []), none, none, 
  some (.aload_n 0, 1, 0, 0, 0, 0, []), some (.getfield 7, 3, 11, 0, 0, 0, [(0, 83)]), none, none, some (.iconst 0, 1, 0, 0, 0, 0, []), some (.iaload, 1, 0, 0, 0, 0, []), some (.ireturn, 1, 0, 0, 0, 0, [])]
set_option maxRecDepth 100000 in
def cd249 : Cd := [some (.iload_n 1, 1, 0, 0, 0, 0, []), some (.i2l, 1, 0, 0, 0, 0, []), some (.lconst 0, 1, 0, 0, 0, 0, []), some (.ldc2_w 325, 3, 0, 0, 0, 65535, [(0, 14)]), none, none, 
  some (.invokestatic 67, 3, 159, 3, 0, 0, [(0, 194)]), none, none, some (.ifCond .eq 13, 3, 22, 0, 0, 0, []), none, none, some (.aload_n 0, 1, 0, 0, 0, 0, []), some (.bipush 6, 2, 0, 0, 6, 0, []), none, 
  some (.iload_n 1, 1, 0, 0, 0, 0, []), some (.invokevirtual 98, 3, 162, 2, 0, 0, [(0, 198)]), none, none, some (.goto 5, 3, 24, 0, 0, 0, []), none, none, some (.ldc 87, 2, 0, 0, -1000000001, 0, [(0, 24)]), none, 
  some (.ireturn, 1, 0, 0, 0, 0, [])]
set_option maxRecDepth 100000 in
def cd250 : Cd := [some (.iload_n 1, 1, 0, 0, 0, 0, []), some (.i2l, 1, 0, 0, 0, 0, []), some (.lconst 1, 1, 0, 0, 0, 1, []), some (.ldc2_w 104, 3, 0, 0, 0, 10, [(0, 3)]), none, none, some (.invokestatic 67, 3, 159, 3, 0, 0, [(0, 194)]), 
  none, none, some (.ifCond .ne 6, 3, 15, 0, 0, 0, []), none, none, some (.ldc 87, 2, 0, 0, -1000000001, 0, [(0, 24)]), none, some (.ireturn, 1, 0, 0, 0, 0, []), some (.iconst 0, 1, 0, 0, 0, 0, []), 
  some (.istore_n 2, 1, 0, 0, 0, 0, []), some (.iconst 0, 1, 0, 0, 0, 0, []), some (.istore_n 3, 1, 0, 0, 0, 0, []), some (.iconst 0, 1, 0, 0, 0, 0, []), some (.istore 4, 2, 0, 0, 0, 0, []), none, 
  some (.iload 4, 2, 0, 0, 0, 0, []), none, some (.aload_n 0, 1, 0, 0, 0, 0, []), some (.getfield 7, 3, 11, 0, 0, 0, [(0, 83)]), none, none, some (.iconst 2, 1, 0, 0, 2, 0, []), some (.iaload, 1, 0, 0, 0, 0, []), 
  some (.if_icmp .ge 46, 3, 76, 0, 0, 0, []), none, none, some (.iload_n 2, 1, 0, 0, 0, 0, []), some (.aload_n 0, 1, 0, 0, 0, 0, []), some (.iload 4, 2, 0, 0, 0, 0, []), none, 
  some (.invokevirtual 124, 3, 172, 1, 0, 0, [(0, 214)]), none, none, some (.ifCond .eq 7, 3, 47, 0, 0, 0, []), none, none, some (.iconst 0, 1, 0, 0, 0, 0, []), some (.goto 7, 3, 51, 0, 0, 0, []), none, none, 
  some (.iconst 1, 1, 0, 0, 1, 0, []), some (.iload 4, 2, 0, 0, 0, 0, []), none, some (.ishl, 1, 0, 0, 0, 0, []), some (.ior, 1, 0, 0, 0, 0, []), some (.istore_n 2, 1, 0, 0, 0, 0, []), some (.iload_n 3, 1, 0, 0, 0, 0, []), 
  some (.aload_n 0, 1, 0, 0, 0, 0, []), some (.iload 4, 2, 0, 0, 0, 0, []), none, some (.invokevirtual 124, 3, 172, 1, 0, 0, [(0, 214)]), none, none, some (.ifCond .eq 7, 3, 67, 0, 0, 0, []), none, none, 
  some (.iconst 0, 1, 0, 0, 0, 0, []), some (.goto 4, 3, 68, 0, 0, 0, []), none, none, some (.iconst 1, 1, 0, 0, 1, 0, []), some (.iadd, 1, 0, 0, 0, 0, []), some (.istore_n 3, 1, 0, 0, 0, 0, []), 
  some (.iinc 4 1, 3, 0, 0, 1, 0, []), none, none, some (.goto (-51), 3, 22, 0, 0, 0, []), none, none, some (.iconst 0, 1, 0, 0, 0, 0, []), some (.istore 4, 2, 0, 0, 0, 0, []), none, some (.iconst 0, 1, 0, 0, 0, 0, []), 
  some (.istore 5, 2, 0, 0, 0, 0, []), none, some (.iload 5, 2, 0, 0, 0, 0, []), none, some (.iload_n 1, 1, 0, 0, 0, 0, []), some (.if_icmp .ge 105, 3, 190, 0, 0, 0, []), none, none, some (.iload_n 3, 1, 0, 0, 0, 0, []), 
  some (.ifCond .le 101, 3, 190, 0, 0, 0, []), none, none, some (.aload_n 0, 1, 0, 0, 0, 0, []), some (.getfield 7, 3, 11, 0, 0, 0, [(0, 83)]), none, none, some (.bipush 6, 2, 0, 0, 6, 0, []), none, 
  some (.aload_n 0, 1, 0, 0, 0, 0, []), some (.getfield 7, 3, 11, 0, 0, 0, [(0, 83)]), none, none, some (.bipush 6, 2, 0, 0, 6, 0, []), none, some (.iaload, 1, 0, 0, 0, 0, []), some (.sipush 25173, 3, 0, 0, 25173, 0, []), 
  none, none, some (.imul, 1, 0, 0, 0, 0, []), some (.sipush 13849, 3, 0, 0, 13849, 0, []), none, none, some (.iadd, 1, 0, 0, 0, 0, []), some (.ldc_w 327, 3, 0, 0, 65536, 0, [(0, 30)]), none, none, 
  some (.irem, 1, 0, 0, 0, 0, []), some (.iastore, 1, 0, 0, 0, 0, []), some (.aload_n 0, 1, 0, 0, 0, 0, []), some (.getfield 7, 3, 11, 0, 0, 0, [(0, 83)]), none, none, some (.bipush 6, 2, 0, 0, 6, 0, []), none, 
  some (.iaload, 1, 0, 0, 0, 0, []), some (.iload_n 3, 1, 0, 0, 0, 0, []), some (.irem, 1, 0, 0, 0, 0, []), some (.istore 6, 2, 0, 0, 0, 0, []), none, some (.iconst 0, 1, 0, 0, 0, 0, []), 
  some (.istore 7, 2, 0, 0, 0, 0, []), none, some (.iload_n 2, 1, 0, 0, 0, 0, []), some (.iload 7, 2, 0, 0, 0, 0, []), none, some (.ishr, 1, 0, 0, 0, 0, []), some (.iconst 1, 1, 0, 0, 1, 0, []), 
  some (.iand, 1, 0, 0, 0, 0, []), some (.ifCond .eq 8, 3, 146, 0, 0, 0, []), none, none, some (.iload 6, 2, 0, 0, 0, 0, []), none, some (.ifCond .le 20, 3, 163, 0, 0, 0, []), none, none, some (.iload 6, 2, 0, 0, 0, 0, []), 
  none, some (.iload_n 2, 1, 0, 0, 0, 0, []), some (.iload 7, 2, 0, 0, 0, 0, []), none, some (.ishr, 1, 0, 0, 0, 0, []), some (.iconst 1, 1, 0, 0, 1, 0, []), some (.iand, 1, 0, 0, 0, 0, []), some (.isub, 1, 0, 0, 0, 0, []), 
  some (.istore 6, 2, 0, 0, 0, 0, []), none, some (.iinc 7 1, 3, 0, 0, 1, 0, []), none, none, some (.goto (-28), 3, 132, 0, 0, 0, []), none, none, some (.iload_n 2, 1, 0, 0, 0, 0, []), some (.iconst 1, 1, 0, 0, 1, 0, []), 
  some (.iload 7, 2, 0, 0, 0, 0, []), none, some (.ishl, 1, 0, 0, 0, 0, []), some (.iconst (-1), 1, 0, 0, -1, 0, []), some (.ixor, 1, 0, 0, 0, 0, []), some (.iand, 1, 0, 0, 0, 0, []), some (.istore_n 2, 1, 0, 0, 0, 0, []), 
  some (.iload 4, 2, 0, 0, 0, 0, []), none, some (.iconst 1, 1, 0, 0, 1, 0, []), some (.iload 7, 2, 0, 0, 0, 0, []), none, some (.ishl, 1, 0, 0, 0, 0, []), some (.ior, 1, 0, 0, 0, 0, []), 
  some (.istore 4, 2, 0, 0, 0, 0, []), none, some (.iinc 3 (-1), 3, 0, 0, -1, 0, []), none, none, some (.iinc 5 1, 3, 0, 0, 1, 0, []), none, none, some (.goto (-105), 3, 82, 0, 0, 0, []), none, none, 
  some (.iload 4, 2, 0, 0, 0, 0, []), none, some (.ireturn, 1, 0, 0, 0, 0, [])]
set_option maxRecDepth 100000 in
def cd251 : Cd := [some (.iload_n 0, 1, 0, 0, 0, 0, []), some (.i2l, 1, 0, 0, 0, 0, []), some (.lconst 0, 1, 0, 0, 0, 0, []), some (.ldc2_w 78, 3, 0, 0, 0, 3, [(0, 1)]), none, none, some (.invokestatic 67, 3, 159, 3, 0, 0, [(0, 194)]), 
  none, none, some (.ireturn, 1, 0, 0, 0, 0, [])]
set_option maxRecDepth 100000 in
def cd252 : Cd := [some (.iload_n 0, 1, 0, 0, 0, 0, []), some (.ifCond .ne 13, 3, 14, 0, 0, 0, []), none, none, some (.lload_n 1, 1, 0, 0, 0, 0, []), some (.bipush 56, 2, 0, 0, 56, 0, []), none, some (.lshl, 1, 0, 0, 0, 0, []), 
  some (.bipush 56, 2, 0, 0, 56, 0, []), none, some (.lshr, 1, 0, 0, 0, 0, []), some (.goto 19, 3, 30, 0, 0, 0, []), none, none, some (.iload_n 0, 1, 0, 0, 0, 0, []), some (.iconst 1, 1, 0, 0, 1, 0, []), 
  some (.if_icmp .ne 13, 3, 29, 0, 0, 0, []), none, none, some (.lload_n 1, 1, 0, 0, 0, 0, []), some (.bipush 48, 2, 0, 0, 48, 0, []), none, some (.lshl, 1, 0, 0, 0, 0, []), some (.bipush 48, 2, 0, 0, 48, 0, []), none, 
  some (.lshr, 1, 0, 0, 0, 0, []), some (.goto 4, 3, 30, 0, 0, 0, []), none, none, some (.lload_n 1, 1, 0, 0, 0, 0, []), some (.lreturn, 1, 0, 0, 0, 0, [])]
set_option maxRecDepth 100000 in
def cd253 : Cd := [some (.iload_n 1, 1, 0, 0, 0, 0, []), some (.invokestatic 328, 3, 251, 1, 0, 0, [(0, 286)]), none, none, some (.ifCond .eq 27, 3, 31, 0, 0, 0, []), none, none, some (.iload_n 2, 1, 0, 0, 0, 0, []), 
  some (.i2l, 1, 0, 0, 0, 0, []), some (.ldc2_w 331, 3, 0, 0, 0, -1, [(0, 15)]), none, none, some (.ldc2_w 267, 3, 0, 0, 0, 2, [(0, 12)]), none, none, some (.invokestatic 67, 3, 159, 3, 0, 0, [(0, 194)]), none, none, 
  some (.ifCond .eq 13, 3, 31, 0, 0, 0, []), none, none, some (.iload_n 2, 1, 0, 0, 0, 0, []), some (.ifCond .lt 12, 3, 34, 0, 0, 0, []), none, none, some (.iload_n 3, 1, 0, 0, 0, 0, []), 
  some (.bipush 24, 2, 0, 0, 24, 0, []), none, some (.if_icmp .le 6, 3, 34, 0, 0, 0, []), none, none, some (.ldc 87, 2, 0, 0, -1000000001, 0, [(0, 24)]), none, some (.ireturn, 1, 0, 0, 0, 0, []), 
  some (.iload_n 2, 1, 0, 0, 0, 0, []), some (.ifCond .lt 11, 3, 46, 0, 0, 0, []), none, none, some (.iload_n 3, 1, 0, 0, 0, 0, []), some (.ifCond .ge 7, 3, 46, 0, 0, 0, []), none, none, 
  some (.ldc_w 333, 3, 0, 0, -1000000014, 0, [(0, 31)]), none, none, some (.ireturn, 1, 0, 0, 0, 0, []), some (.aload_n 0, 1, 0, 0, 0, 0, []), some (.getfield 19, 3, 11, 4, 4, 0, [(0, 87)]), none, none, 
  some (.iload_n 1, 1, 0, 0, 0, 0, []), some (.iload_n 2, 1, 0, 0, 0, 0, []), some (.iastore, 1, 0, 0, 0, 0, []), some (.aload_n 0, 1, 0, 0, 0, 0, []), some (.getfield 22, 3, 11, 5, 5, 0, [(0, 88)]), none, none, 
  some (.iload_n 1, 1, 0, 0, 0, 0, []), some (.iload_n 2, 1, 0, 0, 0, 0, []), some (.ifCond .ge 7, 3, 66, 0, 0, 0, []), none, none, some (.iconst 0, 1, 0, 0, 0, 0, []), some (.goto 4, 3, 67, 0, 0, 0, []), none, none, 
  some (.iload_n 3, 1, 0, 0, 0, 0, []), some (.iastore, 1, 0, 0, 0, 0, []), some (.iconst 0, 1, 0, 0, 0, 0, []), some (.istore 4, 2, 0, 0, 0, 0, []), none, some (.iload 4, 2, 0, 0, 0, 0, []), none, 
  some (.bipush 24, 2, 0, 0, 24, 0, []), none, some (.if_icmp .ge 22, 3, 97, 0, 0, 0, []), none, none, some (.aload_n 0, 1, 0, 0, 0, 0, []), some (.getfield 25, 3, 11, 6, 6, 0, [(0, 89)]), none, none, 
  some (.bipush 24, 2, 0, 0, 24, 0, []), none, some (.iload_n 1, 1, 0, 0, 0, 0, []), some (.imul, 1, 0, 0, 0, 0, []), some (.iload 4, 2, 0, 0, 0, 0, []), none, some (.iadd, 1, 0, 0, 0, 0, []), 
  some (.lconst 0, 1, 0, 0, 0, 0, []), some (.lastore, 1, 0, 0, 0, 0, []), some (.iinc 4 1, 3, 0, 0, 1, 0, []), none, none, some (.goto (-23), 3, 71, 0, 0, 0, []), none, none, some (.aload_n 0, 1, 0, 0, 0, 0, []), 
  some (.getfield 22, 3, 11, 5, 5, 0, [(0, 88)]), none, none, some (.iload_n 1, 1, 0, 0, 0, 0, []), some (.iaload, 1, 0, 0, 0, 0, []), some (.ireturn, 1, 0, 0, 0, 0, [])]
set_option maxRecDepth 100000 in
def cd254 : Cd := [some (.iload_n 1, 1, 0, 0, 0, 0, []), some (.invokestatic 328, 3, 251, 1, 0, 0, [(0, 286)]), none, none, some (.ifCond .ne 6, 3, 10, 0, 0, 0, []), none, none, some (.ldc 87, 2, 0, 0, -1000000001, 0, [(0, 24)]), none, 
  some (.ireturn, 1, 0, 0, 0, 0, []), some (.aload_n 0, 1, 0, 0, 0, 0, []), some (.getfield 19, 3, 11, 4, 4, 0, [(0, 87)]), none, none, some (.iload_n 1, 1, 0, 0, 0, 0, []), some (.iaload, 1, 0, 0, 0, 0, []), 
  some (.ifCond .ge 9, 3, 25, 0, 0, 0, []), none, none, some (.ldc_w 334, 3, 0, 0, -1000000011, 0, [(0, 32)]), none, none, some (.goto 28, 3, 50, 0, 0, 0, []), none, none, some (.iload_n 2, 1, 0, 0, 0, 0, []), 
  some (.i2l, 1, 0, 0, 0, 0, []), some (.lconst 0, 1, 0, 0, 0, 0, []), some (.aload_n 0, 1, 0, 0, 0, 0, []), some (.getfield 22, 3, 11, 5, 5, 0, [(0, 88)]), none, none, some (.iload_n 1, 1, 0, 0, 0, 0, []), 
  some (.iaload, 1, 0, 0, 0, 0, []), some (.iconst 1, 1, 0, 0, 1, 0, []), some (.isub, 1, 0, 0, 0, 0, []), some (.i2l, 1, 0, 0, 0, 0, []), some (.invokestatic 67, 3, 159, 3, 0, 0, [(0, 194)]), none, none, 
  some (.ifCond .eq 7, 3, 47, 0, 0, 0, []), none, none, some (.iconst 0, 1, 0, 0, 0, 0, []), some (.goto 6, 3, 50, 0, 0, 0, []), none, none, some (.ldc_w 335, 3, 0, 0, -1000000013, 0, [(0, 33)]), none, none, 
  some (.ireturn, 1, 0, 0, 0, 0, [])]
set_option maxRecDepth 100000 in
def cd255 : Cd := [some (.aload_n 0, 1, 0, 0, 0, 0, []), some (.iload_n 1, 1, 0, 0, 0, 0, []), some (.iload_n 2, 1, 0, 0, 0, 0, []), some (.invokevirtual 336, 3, 254, 2, 0, 0, [(0, 288)]), none, none, some (.istore 4, 2, 0, 0, 0, 0, []), 
  none, some (.iload 4, 2, 0, 0, 0, 0, []), none, some (.ifCond .eq 6, 3, 16, 0, 0, 0, []), none, none, some (.iload 4, 2, 0, 0, 0, 0, []), none, some (.ireturn, 1, 0, 0, 0, 0, []), some (.aload_n 0, 1, 0, 0, 0, 0, []), 
  some (.getfield 25, 3, 11, 6, 6, 0, [(0, 89)]), none, none, some (.bipush 24, 2, 0, 0, 24, 0, []), none, some (.iload_n 1, 1, 0, 0, 0, 0, []), some (.imul, 1, 0, 0, 0, 0, []), some (.iload_n 2, 1, 0, 0, 0, 0, []), 
  some (.iadd, 1, 0, 0, 0, 0, []), some (.aload_n 0, 1, 0, 0, 0, 0, []), some (.getfield 19, 3, 11, 4, 4, 0, [(0, 87)]), none, none, some (.iload_n 1, 1, 0, 0, 0, 0, []), some (.iaload, 1, 0, 0, 0, 0, []), 
  some (.iload_n 3, 1, 0, 0, 0, 0, []), some (.i2l, 1, 0, 0, 0, 0, []), some (.invokestatic 339, 3, 252, 2, 0, 0, [(0, 289)]), none, none, some (.lastore, 1, 0, 0, 0, 0, []), some (.aload_n 0, 1, 0, 0, 0, 0, []), 
  some (.getfield 25, 3, 11, 6, 6, 0, [(0, 89)]), none, none, some (.bipush 24, 2, 0, 0, 24, 0, []), none, some (.iload_n 1, 1, 0, 0, 0, 0, []), some (.imul, 1, 0, 0, 0, 0, []), some (.iload_n 2, 1, 0, 0, 0, 0, []), 
  some (.iadd, 1, 0, 0, 0, 0, []), some (.laload, 1, 0, 0, 0, 0, []), some (.l2i, 1, 0, 0, 0, 0, []), some (.ireturn, 1, 0, 0, 0, 0, [])]
set_option maxRecDepth 100000 in
def cd256 : Cd := [some (.aload_n 0, 1, 0, 0, 0, 0, []), some (.iload_n 1, 1, 0, 0, 0, 0, []), some (.iload_n 2, 1, 0, 0, 0, 0, []), some (.invokevirtual 336, 3, 254, 2, 0, 0, [(0, 288)]), none, none, some (.istore 4, 2, 0, 0, 0, 0, []), 
  none, some (.iload 4, 2, 0, 0, 0, 0, []), none, some (.ifCond .eq 6, 3, 16, 0, 0, 0, []), none, none, some (.iload 4, 2, 0, 0, 0, 0, []), none, some (.ireturn, 1, 0, 0, 0, 0, []), some (.aload_n 0, 1, 0, 0, 0, 0, []), 
  some (.getfield 25, 3, 11, 6, 6, 0, [(0, 89)]), none, none, some (.bipush 24, 2, 0, 0, 24, 0, []), none, some (.iload_n 1, 1, 0, 0, 0, 0, []), some (.imul, 1, 0, 0, 0, 0, []), some (.iload_n 2, 1, 0, 0, 0, 0, []), 
  some (.iadd, 1, 0, 0, 0, 0, []), some (.aload_n 0, 1, 0, 0, 0, 0, []), some (.getfield 19, 3, 11, 4, 4, 0, [(0, 87)]), none, none, some (.iload_n 1, 1, 0, 0, 0, 0, []), some (.iaload, 1, 0, 0, 0, 0, []), 
  some (.aload_n 0, 1, 0, 0, 0, 0, []), some (.getfield 25, 3, 11, 6, 6, 0, [(0, 89)]), none, none, some (.bipush 24, 2, 0, 0, 24, 0, []), none, some (.iload_n 1, 1, 0, 0, 0, 0, []), some (.imul, 1, 0, 0, 0, 0, []), 
  some (.iload_n 2, 1, 0, 0, 0, 0, []), some (.iadd, 1, 0, 0, 0, 0, []), some (.laload, 1, 0, 0, 0, 0, []), some (.ldc2_w 343, 3, 0, 0, 0, 1000, [(0, 16)]), none, none, some (.lmul, 1, 0, 0, 0, 0, []), 
  some (.iload_n 3, 1, 0, 0, 0, 0, []), some (.i2l, 1, 0, 0, 0, 0, []), some (.ladd, 1, 0, 0, 0, 0, []), some (.invokestatic 339, 3, 252, 2, 0, 0, [(0, 289)]), none, none, some (.lastore, 1, 0, 0, 0, 0, []), 
  some (.aload_n 0, 1, 0, 0, 0, 0, []), some (.getfield 25, 3, 11, 6, 6, 0, [(0, 89)]), none, none, some (.bipush 24, 2, 0, 0, 24, 0, []), none, some (.iload_n 1, 1, 0, 0, 0, 0, []), some (.imul, 1, 0, 0, 0, 0, []), 
  some (.iload_n 2, 1, 0, 0, 0, 0, []), some (.iadd, 1, 0, 0, 0, 0, []), some (.laload, 1, 0, 0, 0, 0, []), some (.l2i, 1, 0, 0, 0, 0, []), some (.ireturn, 1, 0, 0, 0, 0, [])]
set_option maxRecDepth 100000 in
def cd257 : Cd := [some (.iload_n 1, 1, 0, 0, 0, 0, []), some (.invokestatic 328, 3, 251, 1, 0, 0, [(0, 286)]), none, none, some (.ifCond .eq 10, 3, 14, 0, 0, 0, []), none, none, some (.iload_n 3, 1, 0, 0, 0, 0, []), 
  some (.invokestatic 328, 3, 251, 1, 0, 0, [(0, 286)]), none, none, some (.ifCond .ne 6, 3, 17, 0, 0, 0, []), none, none, some (.ldc 87, 2, 0, 0, -1000000001, 0, [(0, 24)]), none, some (.ireturn, 1, 0, 0, 0, 0, []), 
  some (.aload_n 0, 1, 0, 0, 0, 0, []), some (.getfield 19, 3, 11, 4, 4, 0, [(0, 87)]), none, none, some (.iload_n 1, 1, 0, 0, 0, 0, []), some (.iaload, 1, 0, 0, 0, 0, []), some (.ifCond .lt 12, 3, 35, 0, 0, 0, []), none, 
  none, some (.aload_n 0, 1, 0, 0, 0, 0, []), some (.getfield 19, 3, 11, 4, 4, 0, [(0, 87)]), none, none, some (.iload_n 3, 1, 0, 0, 0, 0, []), some (.iaload, 1, 0, 0, 0, 0, []), some (.ifCond .ge 7, 3, 39, 0, 0, 0, []), 
  none, none, some (.ldc_w 334, 3, 0, 0, -1000000011, 0, [(0, 32)]), none, none, some (.ireturn, 1, 0, 0, 0, 0, []), some (.aload_n 0, 1, 0, 0, 0, 0, []), some (.getfield 19, 3, 11, 4, 4, 0, [(0, 87)]), none, none, 
  some (.iload_n 1, 1, 0, 0, 0, 0, []), some (.iaload, 1, 0, 0, 0, 0, []), some (.aload_n 0, 1, 0, 0, 0, 0, []), some (.getfield 19, 3, 11, 4, 4, 0, [(0, 87)]), none, none, some (.iload_n 3, 1, 0, 0, 0, 0, []), 
  some (.iaload, 1, 0, 0, 0, 0, []), some (.if_icmp .eq 6, 3, 57, 0, 0, 0, []), none, none, some (.ldc 165, 2, 0, 0, -1000000012, 0, [(0, 28)]), none, some (.ireturn, 1, 0, 0, 0, 0, []), 
  some (.iload_n 2, 1, 0, 0, 0, 0, []), some (.ifCond .lt 48, 3, 106, 0, 0, 0, []), none, none, some (.iload 4, 2, 0, 0, 0, 0, []), none, some (.ifCond .lt 43, 3, 106, 0, 0, 0, []), none, none, 
  some (.iload 5, 2, 0, 0, 0, 0, []), none, some (.ifCond .lt 38, 3, 106, 0, 0, 0, []), none, none, some (.iload_n 2, 1, 0, 0, 0, 0, []), some (.i2l, 1, 0, 0, 0, 0, []), some (.iload 5, 2, 0, 0, 0, 0, []), none, 
  some (.i2l, 1, 0, 0, 0, 0, []), some (.ladd, 1, 0, 0, 0, 0, []), some (.aload_n 0, 1, 0, 0, 0, 0, []), some (.getfield 22, 3, 11, 5, 5, 0, [(0, 88)]), none, none, some (.iload_n 1, 1, 0, 0, 0, 0, []), 
  some (.iaload, 1, 0, 0, 0, 0, []), some (.i2l, 1, 0, 0, 0, 0, []), some (.lcmp, 1, 0, 0, 0, 0, []), some (.ifCond .gt 21, 3, 106, 0, 0, 0, []), none, none, some (.iload 4, 2, 0, 0, 0, 0, []), none, 
  some (.i2l, 1, 0, 0, 0, 0, []), some (.iload 5, 2, 0, 0, 0, 0, []), none, some (.i2l, 1, 0, 0, 0, 0, []), some (.ladd, 1, 0, 0, 0, 0, []), some (.aload_n 0, 1, 0, 0, 0, 0, []), 
  some (.getfield 22, 3, 11, 5, 5, 0, [(0, 88)]), none, none, some (.iload_n 3, 1, 0, 0, 0, 0, []), some (.iaload, 1, 0, 0, 0, 0, []), some (.i2l, 1, 0, 0, 0, 0, []), some (.lcmp, 1, 0, 0, 0, 0, []), 
  some (.ifCond .le 7, 3, 110, 0, 0, 0, []), none, none, some (.ldc_w 335, 3, 0, 0, -1000000013, 0, [(0, 33)]), none, none, some (.ireturn, 1, 0, 0, 0, 0, []), some (.iconst 0, 1, 0, 0, 0, 0, []), 
  some (.istore 6, 2, 0, 0, 0, 0, []), none, some (.iload 6, 2, 0, 0, 0, 0, []), none, some (.iload 5, 2, 0, 0, 0, 0, []), none, some (.if_icmp .ge 30, 3, 147, 0, 0, 0, []), none, none, some (.aload_n 0, 1, 0, 0, 0, 0, []), 
  some (.getfield 57, 3, 11, 32, 32, 0, [(0, 115)]), none, none, some (.iload 6, 2, 0, 0, 0, 0, []), none, some (.aload_n 0, 1, 0, 0, 0, 0, []), some (.getfield 25, 3, 11, 6, 6, 0, [(0, 89)]), none, none, 
  some (.bipush 24, 2, 0, 0, 24, 0, []), none, some (.iload_n 1, 1, 0, 0, 0, 0, []), some (.imul, 1, 0, 0, 0, 0, []), some (.iload_n 2, 1, 0, 0, 0, 0, []), some (.iadd, 1, 0, 0, 0, 0, []), 
  some (.iload 6, 2, 0, 0, 0, 0, []), none, some (.iadd, 1, 0, 0, 0, 0, []), some (.laload, 1, 0, 0, 0, 0, []), some (.lastore, 1, 0, 0, 0, 0, []), some (.iinc 6 1, 3, 0, 0, 1, 0, []), none, none, 
  some (.goto (-31), 3, 113, 0, 0, 0, []), none, none, some (.iconst 0, 1, 0, 0, 0, 0, []), some (.istore 6, 2, 0, 0, 0, 0, []), none, some (.iload 6, 2, 0, 0, 0, 0, []), none, some (.iload 5, 2, 0, 0, 0, 0, []), none, 
  some (.if_icmp .ge 31, 3, 185, 0, 0, 0, []), none, none, some (.aload_n 0, 1, 0, 0, 0, 0, []), some (.getfield 25, 3, 11, 6, 6, 0, [(0, 89)]), none, none, some (.bipush 24, 2, 0, 0, 24, 0, []), none, 
  some (.iload_n 3, 1, 0, 0, 0, 0, []), some (.imul, 1, 0, 0, 0, 0, []), some (.iload 4, 2, 0, 0, 0, 0, []), none, some (.iadd, 1, 0, 0, 0, 0, []), some (.iload 6, 2, 0, 0, 0, 0, []), none, some (.iadd, 1, 0, 0, 0, 0, []), 
  some (.aload_n 0, 1, 0, 0, 0, 0, []), some (.getfield 57, 3, 11, 32, 32, 0, [(0, 115)]), none, none, some (.iload 6, 2, 0, 0, 0, 0, []), none, some (.laload, 1, 0, 0, 0, 0, []), some (.lastore, 1, 0, 0, 0, 0, []), 
  some (.iinc 6 1, 3, 0, 0, 1, 0, []), none, none, some (.goto (-32), 3, 150, 0, 0, 0, []), none, none, some (.iload 5, 2, 0, 0, 0, 0, []), none, some (.ireturn, 1, 0, 0, 0, 0, [])]
set_option maxRecDepth 100000 in
def cd258 : Cd := [some (.iload_n 1, 1, 0, 0, 0, 0, []), some (.ifCond .ge 6, 3, 7, 0, 0, 0, []), none, none, some (.ldc 87, 2, 0, 0, -1000000001, 0, [(0, 24)]), none, some (.ireturn, 1, 0, 0, 0, 0, []), 
  some (.iconst (-1), 1, 0, 0, -1, 0, []), some (.istore_n 2, 1, 0, 0, 0, 0, []), some (.iconst 0, 1, 0, 0, 0, 0, []), some (.istore_n 3, 1, 0, 0, 0, 0, []), some (.iconst 3, 1, 0, 0, 3, 0, []), 
  some (.istore 4, 2, 0, 0, 0, 0, []), none, some (.iload 4, 2, 0, 0, 0, 0, []), none, some (.ifCond .lt 26, 3, 42, 0, 0, 0, []), none, none, some (.aload_n 0, 1, 0, 0, 0, 0, []), some (.iload 4, 2, 0, 0, 0, 0, []), none, 
  some (.iload_n 1, 1, 0, 0, 0, 0, []), some (.invokevirtual 336, 3, 254, 2, 0, 0, [(0, 288)]), none, none, some (.ifCond .ne 8, 3, 34, 0, 0, 0, []), none, none, some (.iload 4, 2, 0, 0, 0, 0, []), none, 
  some (.goto 4, 3, 35, 0, 0, 0, []), none, none, some (.iload_n 2, 1, 0, 0, 0, 0, []), some (.istore_n 2, 1, 0, 0, 0, 0, []), some (.iinc 4 (-1), 3, 0, 0, -1, 0, []), none, none, some (.goto (-25), 3, 14, 0, 0, 0, []), 
  none, none, some (.iconst 0, 1, 0, 0, 0, 0, []), some (.istore 4, 2, 0, 0, 0, 0, []), none, some (.iload 4, 2, 0, 0, 0, 0, []), none, some (.iconst 4, 1, 0, 0, 4, 0, []), some (.if_icmp .ge 58, 3, 106, 0, 0, 0, []), none, 
  none, some (.iload_n 2, 1, 0, 0, 0, 0, []), some (.ifCond .lt 54, 3, 106, 0, 0, 0, []), none, none, some (.iload_n 3, 1, 0, 0, 0, 0, []), some (.aload_n 0, 1, 0, 0, 0, 0, []), some (.iload 4, 2, 0, 0, 0, 0, []), none, 
  some (.iload_n 1, 1, 0, 0, 0, 0, []), some (.invokevirtual 336, 3, 254, 2, 0, 0, [(0, 288)]), none, none, some (.ifCond .ne 34, 3, 97, 0, 0, 0, []), none, none, some (.aload_n 0, 1, 0, 0, 0, 0, []), 
  some (.getfield 25, 3, 11, 6, 6, 0, [(0, 89)]), none, none, some (.bipush 24, 2, 0, 0, 24, 0, []), none, some (.iload 4, 2, 0, 0, 0, 0, []), none, some (.imul, 1, 0, 0, 0, 0, []), some (.iload_n 1, 1, 0, 0, 0, 0, []), 
  some (.iadd, 1, 0, 0, 0, 0, []), some (.laload, 1, 0, 0, 0, 0, []), some (.aload_n 0, 1, 0, 0, 0, 0, []), some (.getfield 25, 3, 11, 6, 6, 0, [(0, 89)]), none, none, some (.bipush 24, 2, 0, 0, 24, 0, []), none, 
  some (.iload_n 2, 1, 0, 0, 0, 0, []), some (.imul, 1, 0, 0, 0, 0, []), some (.iload_n 1, 1, 0, 0, 0, 0, []), some (.iadd, 1, 0, 0, 0, 0, []), some (.laload, 1, 0, 0, 0, 0, []), some (.lcmp, 1, 0, 0, 0, 0, []), 
  some (.ifCond .eq 7, 3, 97, 0, 0, 0, []), none, none, some (.iconst 1, 1, 0, 0, 1, 0, []), some (.goto 4, 3, 98, 0, 0, 0, []), none, none, some (.iconst 0, 1, 0, 0, 0, 0, []), some (.iadd, 1, 0, 0, 0, 0, []), 
  some (.istore_n 3, 1, 0, 0, 0, 0, []), some (.iinc 4 1, 3, 0, 0, 1, 0, []), none, none, some (.goto (-58), 3, 45, 0, 0, 0, []), none, none, some (.iload_n 2, 1, 0, 0, 0, 0, []), some (.ifCond .ge 8, 3, 115, 0, 0, 0, []), 
  none, none, some (.ldc 66, 2, 0, 0, -1000000005, 0, [(0, 26)]), none, some (.goto 4, 3, 116, 0, 0, 0, []), none, none, some (.iload_n 3, 1, 0, 0, 0, 0, []), some (.ireturn, 1, 0, 0, 0, 0, [])]
set_option maxRecDepth 100000 in
def cd259 : Cd := [some (.aload_n 0, 1, 0, 0, 0, 0, []), some (.getfield 345, 3, 11, 34, 34, 0, [(0, 117)]), none, none, some (.bipush 60, 2, 0, 0, 60, 0, []), none, some (.if_icmp .ne 6, 3, 12, 0, 0, 0, []), none, none, 
  some (.ldc 88, 2, 0, 0, -1000000003, 0, [(0, 25)]), none, some (.ireturn, 1, 0, 0, 0, 0, []), some (.aload_n 0, 1, 0, 0, 0, 0, []), some (.getfield 60, 3, 11, 33, 33, 0, [(0, 116)]), none, none, 
  some (.aload_n 0, 1, 0, 0, 0, 0, []), some (.getfield 345, 3, 11, 34, 34, 0, [(0, 117)]), none, none, some (.iload_n 1, 1, 0, 0, 0, 0, []), some (.iastore, 1, 0, 0, 0, 0, []), some (.aload_n 0, 1, 0, 0, 0, 0, []), 
  some (.dup, 1, 0, 0, 0, 0, []), some (.getfield 345, 3, 11, 34, 34, 0, [(0, 117)]), none, none, some (.iconst 1, 1, 0, 0, 1, 0, []), some (.iadd, 1, 0, 0, 0, 0, []), some (.putfield 345, 3, 11, 34, 34, 0, [(0, 117)]), 
  none, none, some (.aload_n 0, 1, 0, 0, 0, 0, []), some (.getfield 345, 3, 11, 34, 34, 0, [(0, 117)]), none, none, some (.ireturn, 1, 0, 0, 0, 0, [])]
set_option maxRecDepth 100000 in
def cd260 : Cd := [some (.iconst 0, 1, 0, 0, 0, 0, []), some (.istore_n 3, 1, 0, 0, 0, 0, []), some (.iload_n 3, 1, 0, 0, 0, 0, []), some (.sipush 3400, 3, 0, 0, 3400, 0, []), none, none, some (.if_icmp .ge 15, 3, 21, 0, 0, 0, []), none, 
  none, some (.aload_n 2, 1, 0, 0, 0, 0, []), some (.iload_n 3, 1, 0, 0, 0, 0, []), some (.aload_n 1, 1, 0, 0, 0, 0, []), some (.iload_n 3, 1, 0, 0, 0, 0, []), some (.iaload, 1, 0, 0, 0, 0, []), 
  some (.iastore, 1, 0, 0, 0, 0, []), some (.iinc 3 1, 3, 0, 0, 1, 0, []), none, none, some (.goto (-16), 3, 2, 0, 0, 0, []), none, none, some (.return_, 1, 0, 0, 0, 0, [])]
set_option maxRecDepth 100000 in
def cd261 : Cd := [some (.aload_n 0, 1, 0, 0, 0, 0, []), some (.getfield 345, 3, 11, 34, 34, 0, [(0, 117)]), none, none, some (.istore_n 2, 1, 0, 0, 0, 0, []), some (.aload_n 0, 1, 0, 0, 0, 0, []), some (.iconst 0, 1, 0, 0, 0, 0, []), 
  some (.putfield 345, 3, 11, 34, 34, 0, [(0, 117)]), none, none, some (.iload_n 1, 1, 0, 0, 0, 0, []), some (.i2l, 1, 0, 0, 0, 0, []), some (.lconst 1, 1, 0, 0, 0, 1, []), some (.ldc2_w 348, 3, 0, 0, 0, 30, [(0, 17)]), 
  none, none, some (.invokestatic 67, 3, 159, 3, 0, 0, [(0, 194)]), none, none, some (.ifCond .ne 6, 3, 25, 0, 0, 0, []), none, none, some (.ldc 87, 2, 0, 0, -1000000001, 0, [(0, 24)]), none, 
  some (.ireturn, 1, 0, 0, 0, 0, []), some (.aload_n 0, 1, 0, 0, 0, 0, []), some (.getfield 350, 3, 11, 3, 3, 0, [(0, 86)]), none, none, some (.ifCond .ne 6, 3, 35, 0, 0, 0, []), none, none, 
  some (.ldc 134, 2, 0, 0, -1000000002, 0, [(0, 27)]), none, some (.ireturn, 1, 0, 0, 0, 0, []), some (.aload_n 0, 1, 0, 0, 0, 0, []), some (.aload_n 0, 1, 0, 0, 0, 0, []), some (.getfield 7, 3, 11, 0, 0, 0, [(0, 83)]), 
  none, none, some (.aload_n 0, 1, 0, 0, 0, 0, []), some (.getfield 16, 3, 11, 2, 2, 0, [(0, 85)]), none, none, some (.invokevirtual 354, 3, 260, 2, 0, 0, [(0, 295)]), none, none, some (.aload_n 0, 1, 0, 0, 0, 0, []), 
  some (.aload_n 0, 1, 0, 0, 0, 0, []), some (.getfield 13, 3, 11, 1, 1, 0, [(0, 84)]), none, none, some (.aload_n 0, 1, 0, 0, 0, 0, []), some (.getfield 7, 3, 11, 0, 0, 0, [(0, 83)]), none, none, 
  some (.invokevirtual 354, 3, 260, 2, 0, 0, [(0, 295)]), none, none, some (.iconst 0, 1, 0, 0, 0, 0, []), some (.istore_n 3, 1, 0, 0, 0, 0, []), some (.iload_n 3, 1, 0, 0, 0, 0, []), some (.iload_n 1, 1, 0, 0, 0, 0, []), 
  some (.if_icmp .ge 125, 3, 188, 0, 0, 0, []), none, none, some (.aload_n 0, 1, 0, 0, 0, 0, []), some (.invokevirtual 322, 3, 247, 0, 0, 0, [(0, 279)]), none, none, some (.aload_n 0, 1, 0, 0, 0, 0, []), 
  some (.getfield 63, 3, 11, 35, 35, 0, [(0, 118)]), none, none, some (.iconst 2, 1, 0, 0, 2, 0, []), some (.iload_n 3, 1, 0, 0, 0, 0, []), some (.imul, 1, 0, 0, 0, 0, []), some (.iconst 0, 1, 0, 0, 0, 0, []), 
  some (.iastore, 1, 0, 0, 0, 0, []), some (.aload_n 0, 1, 0, 0, 0, 0, []), some (.getfield 63, 3, 11, 35, 35, 0, [(0, 118)]), none, none, some (.iconst 2, 1, 0, 0, 2, 0, []), some (.iload_n 3, 1, 0, 0, 0, 0, []), 
  some (.imul, 1, 0, 0, 0, 0, []), some (.iconst 1, 1, 0, 0, 1, 0, []), some (.iadd, 1, 0, 0, 0, 0, []), some (.iconst 0, 1, 0, 0, 0, 0, []), some (.iastore, 1, 0, 0, 0, 0, []), some (.iconst 0, 1, 0, 0, 0, 0, []), 
  some (.istore 4, 2, 0, 0, 0, 0, []), none, some (.iload 4, 2, 0, 0, 0, 0, []), none, some (.aload_n 0, 1, 0, 0, 0, 0, []), some (.getfield 7, 3, 11, 0, 0, 0, [(0, 83)]), none, none, some (.iconst 2, 1, 0, 0, 2, 0, []), 
  some (.iaload, 1, 0, 0, 0, 0, []), some (.if_icmp .ge 34, 3, 135, 0, 0, 0, []), none, none, some (.aload_n 0, 1, 0, 0, 0, 0, []), some (.getfield 63, 3, 11, 35, 35, 0, [(0, 118)]), none, none, 
  some (.iconst 2, 1, 0, 0, 2, 0, []), some (.iload_n 3, 1, 0, 0, 0, 0, []), some (.imul, 1, 0, 0, 0, 0, []), some (.dup2, 1, 0, 0, 0, 0, []), some (.iaload, 1, 0, 0, 0, 0, []), some (.aload_n 0, 1, 0, 0, 0, 0, []), 
  some (.getfield 7, 3, 11, 0, 0, 0, [(0, 83)]), none, none, some (.aload_n 0, 1, 0, 0, 0, 0, []), some (.iload 4, 2, 0, 0, 0, 0, []), none, some (.invokevirtual 71, 3, 164, 1, 0, 0, [(0, 205)]), none, none, 
  some (.bipush 10, 2, 0, 0, 10, 0, []), none, some (.iadd, 1, 0, 0, 0, 0, []), some (.iaload, 1, 0, 0, 0, 0, []), some (.iadd, 1, 0, 0, 0, 0, []), some (.iastore, 1, 0, 0, 0, 0, []), some (.iinc 4 1, 3, 0, 0, 1, 0, []), 
  none, none, some (.goto (-39), 3, 93, 0, 0, 0, []), none, none, some (.iconst 0, 1, 0, 0, 0, 0, []), some (.istore 4, 2, 0, 0, 0, 0, []), none, some (.iload 4, 2, 0, 0, 0, 0, []), none, 
  some (.aload_n 0, 1, 0, 0, 0, 0, []), some (.getfield 7, 3, 11, 0, 0, 0, [(0, 83)]), none, none, some (.iconst 1, 1, 0, 0, 1, 0, []), some (.iaload, 1, 0, 0, 0, 0, []), some (.if_icmp .ge 36, 3, 182, 0, 0, 0, []), none, 
  none, some (.aload_n 0, 1, 0, 0, 0, 0, []), some (.getfield 63, 3, 11, 35, 35, 0, [(0, 118)]), none, none, some (.iconst 2, 1, 0, 0, 2, 0, []), some (.iload_n 3, 1, 0, 0, 0, 0, []), some (.imul, 1, 0, 0, 0, 0, []), 
  some (.iconst 1, 1, 0, 0, 1, 0, []), some (.iadd, 1, 0, 0, 0, 0, []), some (.dup2, 1, 0, 0, 0, 0, []), some (.iaload, 1, 0, 0, 0, 0, []), some (.aload_n 0, 1, 0, 0, 0, 0, []), 
  some (.getfield 7, 3, 11, 0, 0, 0, [(0, 83)]), none, none, some (.aload_n 0, 1, 0, 0, 0, 0, []), some (.iload 4, 2, 0, 0, 0, 0, []), none, some (.invokevirtual 89, 3, 163, 1, 0, 0, [(0, 195)]), none, none, 
  some (.bipush 6, 2, 0, 0, 6, 0, []), none, some (.iadd, 1, 0, 0, 0, 0, []), some (.iaload, 1, 0, 0, 0, 0, []), some (.iadd, 1, 0, 0, 0, 0, []), some (.iastore, 1, 0, 0, 0, 0, []), some (.iinc 4 1, 3, 0, 0, 1, 0, []), 
  none, none, some (.goto (-41), 3, 138, 0, 0, 0, []), none, none, some (.iinc 3 1, 3, 0, 0, 1, 0, []), none, none, some (.goto (-124), 3, 61, 0, 0, 0, []), none, none, some (.aload_n 0, 1, 0, 0, 0, 0, []), 
  some (.aload_n 0, 1, 0, 0, 0, 0, []), some (.getfield 16, 3, 11, 2, 2, 0, [(0, 85)]), none, none, some (.aload_n 0, 1, 0, 0, 0, 0, []), some (.getfield 7, 3, 11, 0, 0, 0, [(0, 83)]), none, none, 
  some (.invokevirtual 354, 3, 260, 2, 0, 0, [(0, 295)]), none, none, some (.iconst 0, 1, 0, 0, 0, 0, []), some (.istore_n 3, 1, 0, 0, 0, 0, []), some (.iload_n 3, 1, 0, 0, 0, 0, []), some (.iload_n 2, 1, 0, 0, 0, 0, []), 
  some (.if_icmp .ge 31, 3, 235, 0, 0, 0, []), none, none, some (.iload_n 3, 1, 0, 0, 0, 0, []), some (.iconst 2, 1, 0, 0, 2, 0, []), some (.iload_n 1, 1, 0, 0, 0, 0, []), some (.imul, 1, 0, 0, 0, 0, []), 
  some (.if_icmp .ge 24, 3, 235, 0, 0, 0, []), none, none, some (.aload_n 0, 1, 0, 0, 0, 0, []), some (.getfield 60, 3, 11, 33, 33, 0, [(0, 116)]), none, none, some (.iload_n 3, 1, 0, 0, 0, 0, []), 
  some (.iaload, 1, 0, 0, 0, 0, []), some (.aload_n 0, 1, 0, 0, 0, 0, []), some (.getfield 63, 3, 11, 35, 35, 0, [(0, 118)]), none, none, some (.iload_n 3, 1, 0, 0, 0, 0, []), some (.iaload, 1, 0, 0, 0, 0, []), 
  some (.if_icmp .ne 9, 3, 235, 0, 0, 0, []), none, none, some (.iinc 3 1, 3, 0, 0, 1, 0, []), none, none, some (.goto (-30), 3, 202, 0, 0, 0, []), none, none, some (.iload_n 3, 1, 0, 0, 0, 0, []), 
  some (.iload_n 2, 1, 0, 0, 0, 0, []), some (.if_icmp .ne 14, 3, 251, 0, 0, 0, []), none, none, some (.iload_n 3, 1, 0, 0, 0, 0, []), some (.iconst 2, 1, 0, 0, 2, 0, []), some (.iload_n 1, 1, 0, 0, 0, 0, []), 
  some (.imul, 1, 0, 0, 0, 0, []), some (.if_icmp .ne 7, 3, 251, 0, 0, 0, []), none, none, some (.iconst 0, 1, 0, 0, 0, 0, []), some (.goto 6, 3, 254, 0, 0, 0, []), none, none, some (.iconst 1, 1, 0, 0, 1, 0, []), 
  some (.iload_n 3, 1, 0, 0, 0, 0, []), some (.iadd, 1, 0, 0, 0, 0, []), some (.ireturn, 1, 0, 0, 0, 0, [])]
set_option maxRecDepth 100000 in
def cd262 : Cd := [some (.aload_n 0, 1, 0, 0, 0, 0, []), some (.iconst 1, 1, 0, 0, 1, 0, []), some (.putfield 350, 3, 11, 3, 3, 0, [(0, 86)]), none, none, some (.aload_n 0, 1, 0, 0, 0, 0, []), some (.aload_n 0, 1, 0, 0, 0, 0, []), 
  some (.getfield 7, 3, 11, 0, 0, 0, [(0, 83)]), none, none, some (.aload_n 0, 1, 0, 0, 0, 0, []), some (.getfield 13, 3, 11, 1, 1, 0, [(0, 84)]), none, none, some (.invokevirtual 354, 3, 260, 2, 0, 0, [(0, 295)]), none, 
  none, some (.aload_n 0, 1, 0, 0, 0, 0, []), some (.getfield 7, 3, 11, 0, 0, 0, [(0, 83)]), none, none, some (.iconst 0, 1, 0, 0, 0, 0, []), some (.iaload, 1, 0, 0, 0, 0, []), some (.ireturn, 1, 0, 0, 0, 0, [])]
set_option maxRecDepth 100000 in
def cd263 : Cd := [some (.aload_n 0, 1, 0, 0, 0, 0, []), some (.getfield 350, 3, 11, 3, 3, 0, [(0, 86)]), none, none, some (.ifCond .ne 6, 3, 10, 0, 0, 0, []), none, none, some (.ldc 134, 2, 0, 0, -1000000002, 0, [(0, 27)]), none, 
  some (.ireturn, 1, 0, 0, 0, 0, []), some (.aload_n 0, 1, 0, 0, 0, 0, []), some (.aload_n 0, 1, 0, 0, 0, 0, []), some (.getfield 13, 3, 11, 1, 1, 0, [(0, 84)]), none, none, some (.aload_n 0, 1, 0, 0, 0, 0, []), 
  some (.getfield 7, 3, 11, 0, 0, 0, [(0, 83)]), none, none, some (.invokevirtual 354, 3, 260, 2, 0, 0, [(0, 295)]), none, none, some (.aload_n 0, 1, 0, 0, 0, 0, []), some (.getfield 7, 3, 11, 0, 0, 0, [(0, 83)]), none, 
  none, some (.iconst 0, 1, 0, 0, 0, 0, []), some (.iaload, 1, 0, 0, 0, 0, []), some (.ireturn, 1, 0, 0, 0, 0, [])]
set_option maxRecDepth 100000 in
def cd264 : Cd := [some (.iconst 0, 1, 0, 0, 0, 0, []), some (.istore_n 2, 1, 0, 0, 0, 0, []), some (.iload_n 1, 1, 0, 0, 0, 0, []), 
  some (.tableswitch 284 0 13 #[69, 76, 83, 83, 148, 155, 213, 220, 227, 232, 237, 244, 252, 252], 69, 287, 0, 0, 0, [(0, 72), (1, 79), (2, 86), (3, 86), (4, 151), (5, 158), (6, 216), (7, 223), (8, 230), (9, 235), (10, 240), (11, 247), (12, 255), (13, 255)]), 
  none, none, none, none, none, none, none, none, none, none, none, none, none, none, none, none, none, none, none, none, none, none, none, none, none, none, none, none, none, none, none, none, none, none, none, none, none, 
  none, none, none, none, none, none, none, none, none, none, none, none, none, none, none, none, none, none, none, none, none, none, none, none, none, none, none, none, none, none, none, 
  some (.aload_n 0, 1, 0, 0, 0, 0, []), some (.getfield 7, 3, 11, 0, 0, 0, [(0, 83)]), none, none, some (.iconst 1, 1, 0, 0, 1, 0, []), some (.iaload, 1, 0, 0, 0, 0, []), some (.ireturn, 1, 0, 0, 0, 0, []), 
  some (.aload_n 0, 1, 0, 0, 0, 0, []), some (.getfield 7, 3, 11, 0, 0, 0, [(0, 83)]), none, none, some (.iconst 2, 1, 0, 0, 2, 0, []), some (.iaload, 1, 0, 0, 0, 0, []), some (.ireturn, 1, 0, 0, 0, 0, []), 
  some (.iconst 0, 1, 0, 0, 0, 0, []), some (.istore_n 3, 1, 0, 0, 0, 0, []), some (.iload_n 3, 1, 0, 0, 0, 0, []), some (.aload_n 0, 1, 0, 0, 0, 0, []), some (.getfield 7, 3, 11, 0, 0, 0, [(0, 83)]), none, none, 
  some (.iconst 2, 1, 0, 0, 2, 0, []), some (.iaload, 1, 0, 0, 0, 0, []), some (.if_icmp .ge 54, 3, 149, 0, 0, 0, []), none, none, some (.iload_n 2, 1, 0, 0, 0, 0, []), some (.iload_n 1, 1, 0, 0, 0, 0, []), 
  some (.iconst 2, 1, 0, 0, 2, 0, []), some (.if_icmp .ne 19, 3, 120, 0, 0, 0, []), none, none, some (.aload_n 0, 1, 0, 0, 0, 0, []), some (.getfield 7, 3, 11, 0, 0, 0, [(0, 83)]), none, none, 
  some (.aload_n 0, 1, 0, 0, 0, 0, []), some (.iload_n 3, 1, 0, 0, 0, 0, []), some (.invokevirtual 71, 3, 164, 1, 0, 0, [(0, 205)]), none, none, some (.bipush 11, 2, 0, 0, 11, 0, []), none, some (.iadd, 1, 0, 0, 0, 0, []), 
  some (.iaload, 1, 0, 0, 0, 0, []), some (.goto 24, 3, 141, 0, 0, 0, []), none, none, some (.aload_n 0, 1, 0, 0, 0, 0, []), some (.getfield 7, 3, 11, 0, 0, 0, [(0, 83)]), none, none, some (.aload_n 0, 1, 0, 0, 0, 0, []), 
  some (.iload_n 3, 1, 0, 0, 0, 0, []), some (.invokevirtual 71, 3, 164, 1, 0, 0, [(0, 205)]), none, none, some (.bipush 8, 2, 0, 0, 8, 0, []), none, some (.iadd, 1, 0, 0, 0, 0, []), some (.iaload, 1, 0, 0, 0, 0, []), 
  some (.ifCond .lt 7, 3, 140, 0, 0, 0, []), none, none, some (.iconst 1, 1, 0, 0, 1, 0, []), some (.goto 4, 3, 141, 0, 0, 0, []), none, none, some (.iconst 0, 1, 0, 0, 0, 0, []), some (.iadd, 1, 0, 0, 0, 0, []), 
  some (.istore_n 2, 1, 0, 0, 0, 0, []), some (.iinc 3 1, 3, 0, 0, 1, 0, []), none, none, some (.goto (-58), 3, 88, 0, 0, 0, []), none, none, some (.iload_n 2, 1, 0, 0, 0, 0, []), some (.ireturn, 1, 0, 0, 0, 0, []), 
  some (.aload_n 0, 1, 0, 0, 0, 0, []), some (.getfield 7, 3, 11, 0, 0, 0, [(0, 83)]), none, none, some (.iconst 3, 1, 0, 0, 3, 0, []), some (.iaload, 1, 0, 0, 0, 0, []), some (.ireturn, 1, 0, 0, 0, 0, []), 
  some (.iconst 0, 1, 0, 0, 0, 0, []), some (.istore_n 3, 1, 0, 0, 0, 0, []), some (.iload_n 3, 1, 0, 0, 0, 0, []), some (.aload_n 0, 1, 0, 0, 0, 0, []), some (.getfield 7, 3, 11, 0, 0, 0, [(0, 83)]), none, none, 
  some (.iconst 3, 1, 0, 0, 3, 0, []), some (.iaload, 1, 0, 0, 0, 0, []), some (.if_icmp .ge 47, 3, 214, 0, 0, 0, []), none, none, some (.iload_n 2, 1, 0, 0, 0, 0, []), some (.aload_n 0, 1, 0, 0, 0, 0, []), 
  some (.getfield 7, 3, 11, 0, 0, 0, [(0, 83)]), none, none, some (.aload_n 0, 1, 0, 0, 0, 0, []), some (.iload_n 3, 1, 0, 0, 0, 0, []), some (.invokevirtual 75, 3, 165, 1, 0, 0, [(0, 203)]), none, none, 
  some (.iaload, 1, 0, 0, 0, 0, []), some (.iconst 5, 1, 0, 0, 5, 0, []), some (.if_icmp .ne 23, 3, 205, 0, 0, 0, []), none, none, some (.aload_n 0, 1, 0, 0, 0, 0, []), some (.getfield 7, 3, 11, 0, 0, 0, [(0, 83)]), none, 
  none, some (.aload_n 0, 1, 0, 0, 0, 0, []), some (.iload_n 3, 1, 0, 0, 0, 0, []), some (.invokevirtual 75, 3, 165, 1, 0, 0, [(0, 203)]), none, none, some (.bipush 6, 2, 0, 0, 6, 0, []), none, 
  some (.iadd, 1, 0, 0, 0, 0, []), some (.iaload, 1, 0, 0, 0, 0, []), some (.ifCond .ge 7, 3, 205, 0, 0, 0, []), none, none, some (.iconst 1, 1, 0, 0, 1, 0, []), some (.goto 4, 3, 206, 0, 0, 0, []), none, none, 
  some (.iconst 0, 1, 0, 0, 0, 0, []), some (.iadd, 1, 0, 0, 0, 0, []), some (.istore_n 2, 1, 0, 0, 0, 0, []), some (.iinc 3 1, 3, 0, 0, 1, 0, []), none, none, some (.goto (-51), 3, 160, 0, 0, 0, []), none, none, 
  some (.iload_n 2, 1, 0, 0, 0, 0, []), some (.ireturn, 1, 0, 0, 0, 0, []), some (.aload_n 0, 1, 0, 0, 0, 0, []), some (.getfield 7, 3, 11, 0, 0, 0, [(0, 83)]), none, none, some (.iconst 4, 1, 0, 0, 4, 0, []), 
  some (.iaload, 1, 0, 0, 0, 0, []), some (.ireturn, 1, 0, 0, 0, 0, []), some (.aload_n 0, 1, 0, 0, 0, 0, []), some (.getfield 7, 3, 11, 0, 0, 0, [(0, 83)]), none, none, some (.iconst 5, 1, 0, 0, 5, 0, []), 
  some (.iaload, 1, 0, 0, 0, 0, []), some (.ireturn, 1, 0, 0, 0, 0, []), some (.aload_n 0, 1, 0, 0, 0, 0, []), some (.getfield 345, 3, 11, 34, 34, 0, [(0, 117)]), none, none, some (.ireturn, 1, 0, 0, 0, 0, []), 
  some (.aload_n 0, 1, 0, 0, 0, 0, []), some (.getfield 169, 3, 11, 16, 16, 0, [(0, 99)]), none, none, some (.ireturn, 1, 0, 0, 0, 0, []), some (.aload_n 0, 1, 0, 0, 0, 0, []), some (.getfield 7, 3, 11, 0, 0, 0, [(0, 83)]), 
  none, none, some (.iconst 0, 1, 0, 0, 0, 0, []), some (.iaload, 1, 0, 0, 0, 0, []), some (.ireturn, 1, 0, 0, 0, 0, []), some (.aload_n 0, 1, 0, 0, 0, 0, []), some (.getfield 7, 3, 11, 0, 0, 0, [(0, 83)]), none, none, 
  some (.bipush 6, 2, 0, 0, 6, 0, []), none, some (.iaload, 1, 0, 0, 0, 0, []), some (.ireturn, 1, 0, 0, 0, 0, []), some (.iconst 0, 1, 0, 0, 0, 0, []), some (.istore_n 3, 1, 0, 0, 0, 0, []), 
  some (.iload_n 3, 1, 0, 0, 0, 0, []), some (.aload_n 0, 1, 0, 0, 0, 0, []), some (.getfield 7, 3, 11, 0, 0, 0, [(0, 83)]), none, none, some (.iconst 1, 1, 0, 0, 1, 0, []), some (.iaload, 1, 0, 0, 0, 0, []), 
  some (.if_icmp .ge 21, 3, 285, 0, 0, 0, []), none, none, some (.iload_n 2, 1, 0, 0, 0, 0, []), some (.aload_n 0, 1, 0, 0, 0, 0, []), some (.iload_n 3, 1, 0, 0, 0, 0, []), some (.iload_n 1, 1, 0, 0, 0, 0, []), 
  some (.bipush 11, 2, 0, 0, 11, 0, []), none, some (.isub, 1, 0, 0, 0, 0, []), some (.invokevirtual 106, 3, 179, 2, 0, 0, [(0, 201)]), none, none, some (.iadd, 1, 0, 0, 0, 0, []), some (.istore_n 2, 1, 0, 0, 0, 0, []), 
  some (.iinc 3 1, 3, 0, 0, 1, 0, []), none, none, some (.goto (-25), 3, 257, 0, 0, 0, []), none, none, some (.iload_n 2, 1, 0, 0, 0, 0, []), some (.ireturn, 1, 0, 0, 0, 0, []), 
  some (.ldc 87, 2, 0, 0, -1000000001, 0, [(0, 24)]), none, some (.ireturn, 1, 0, 0, 0, 0, [])]
set_option maxRecDepth 100000 in
def cd265 : Cd := [some (.iload_n 0, 1, 0, 0, 0, 0, []), some (.iload_n 0, 1, 0, 0, 0, 0, []), some (.iconst 1, 1, 0, 0, 1, 0, []), some (.iushr, 1, 0, 0, 0, 0, []), some (.ldc_w 265, 3, 0, 0, 1431655765, 0, [(0, 3)]), none, none, 
  some (.iand, 1, 0, 0, 0, 0, []), some (.isub, 1, 0, 0, 0, 0, []), some (.istore_n 0, 1, 0, 0, 0, 0, []), some (.iload_n 0, 1, 0, 0, 0, 0, []), some (.ldc_w 266, 3, 0, 0, 858993459, 0, [(0, 4)]), none, none, 
  some (.iand, 1, 0, 0, 0, 0, []), some (.iload_n 0, 1, 0, 0, 0, 0, []), some (.iconst 2, 1, 0, 0, 2, 0, []), some (.iushr, 1, 0, 0, 0, 0, []), some (.ldc_w 266, 3, 0, 0, 858993459, 0, [(0, 4)]), none, none, 
  some (.iand, 1, 0, 0, 0, 0, []), some (.iadd, 1, 0, 0, 0, 0, []), some (.istore_n 0, 1, 0, 0, 0, 0, []), some (.iload_n 0, 1, 0, 0, 0, 0, []), some (.iload_n 0, 1, 0, 0, 0, 0, []), some (.iconst 4, 1, 0, 0, 4, 0, []), 
  some (.iushr, 1, 0, 0, 0, 0, []), some (.iadd, 1, 0, 0, 0, 0, []), some (.ldc_w 267, 3, 0, 0, 252645135, 0, [(0, 5)]), none, none, some (.iand, 1, 0, 0, 0, 0, []), some (.istore_n 0, 1, 0, 0, 0, 0, []), 
  some (.iload_n 0, 1, 0, 0, 0, 0, []), some (.iload_n 0, 1, 0, 0, 0, 0, []), some (.bipush 8, 2, 0, 0, 8, 0, []), none, some (.iushr, 1, 0, 0, 0, 0, []), some (.iadd, 1, 0, 0, 0, 0, []), 
  some (.istore_n 0, 1, 0, 0, 0, 0, []), some (.iload_n 0, 1, 0, 0, 0, 0, []), some (.iload_n 0, 1, 0, 0, 0, 0, []), some (.bipush 16, 2, 0, 0, 16, 0, []), none, some (.iushr, 1, 0, 0, 0, 0, []), 
  some (.iadd, 1, 0, 0, 0, 0, []), some (.istore_n 0, 1, 0, 0, 0, 0, []), some (.iload_n 0, 1, 0, 0, 0, 0, []), some (.bipush 63, 2, 0, 0, 63, 0, []), none, some (.iand, 1, 0, 0, 0, 0, []), 
  some (.ireturn, 1, 0, 0, 0, 0, [])]
def psN : List String := [RX0, RX1, RX2, RX3, RX4, RX5, RX6, RX7, RX8, RX9, RX10, RX11, RJ6, "PrisonShopsLaw"]
abbrev Mp : Type := Nat × Nat × (Nat × Nat) × (Nat × Nat) × (Nat × Nat) × (Nat × Nat)
abbrev Mi : Type := MethodName × ByteArray × Nat × Option FieldType × Nat × Cd × Mp
def mi0 : Mi := (⟨RX0, "pass", "(LPrisonShops$State;)V"⟩, prog_2_method_2_code, 3, none, 0, cd0, (1, 1, (5, 24), (5, 22), (5, 23), (1, 7)))
def mi1 : Mi := (⟨RX0, "work", "(LPrisonShops$State;I)V"⟩, prog_2_method_3_code, 7, none, 0, cd1, (1, 2, (5, 29), (5, 28), (0, 29), (1, 7)))
def mi2 : Mi := (⟨RX0, "learn", "(LPrisonShops$State;I)V"⟩, prog_2_method_4_code, 4, none, 0, cd2, (1, 2, (5, 42), (5, 41), (0, 30), (1, 7)))
def mi3 : Mi := (⟨RX0, "finishOrders", "(LPrisonShops$State;I)V"⟩, prog_2_method_5_code, 6, none, 0, cd3, (1, 2, (5, 48), (5, 47), (0, 31), (1, 7)))
def mi4 : Mi := (⟨RX0, "openGate", "(LPrisonShops$State;I)V"⟩, prog_2_method_6_code, 3, none, 0, cd4, (1, 2, (5, 55), (5, 54), (0, 32), (1, 7)))
def mi5 : Mi := (⟨RX1, "placed", "()I"⟩, prog_3_method_2_code, 1, some .int, 1, cd5, (1, 0, (3, 28), (3, 26), (3, 27), (1, 9)))
def mi6 : Mi := (⟨RX1, "turns", "()I"⟩, prog_3_method_3_code, 1, some .int, 1, cd6, (1, 0, (3, 32), (3, 30), (3, 31), (1, 9)))
def mi7 : Mi := (⟨RX1, "shopOf", "(I)I"⟩, prog_3_method_4_code, 2, some .int, 1, cd7, (1, 1, (3, 36), (3, 34), (3, 35), (1, 9)))
def mi8 : Mi := (⟨RX1, "find", "(LPrisonShops$State;)V"⟩, prog_3_method_5_code, 3, none, 1, cd8, (1, 1, (2, 223), (2, 221), (2, 222), (1, 9)))
def mi9 : Mi := (⟨RX1, "choicesOf", "(LPrisonShops$State;I)I"⟩, prog_3_method_6_code, 4, some .int, 1, cd9, (0, 2, (2, 231), (2, 230), (0, 0), (1, 9)))
def mi10 : Mi := (⟨RX1, "sumLeastTurns", "()V"⟩, prog_3_method_7_code, 5, none, 1, cd10, (1, 0, (2, 236), (2, 235), (0, 1), (1, 9)))
def mi11 : Mi := (⟨RX1, "sortIn", "(II)V"⟩, prog_3_method_8_code, 4, none, 1, cd11, (1, 2, (3, 0), (2, 239), (0, 2), (1, 9)))
def mi12 : Mi := (⟨RX1, "place", "(III)V"⟩, prog_3_method_9_code, 5, none, 1, cd12, (1, 3, (3, 4), (3, 3), (0, 3), (1, 9)))
def mi13 : Mi := (⟨RX1, "placeIn", "(IIII)V"⟩, prog_3_method_10_code, 5, none, 1, cd13, (1, 4, (3, 15), (3, 14), (0, 5), (1, 9)))
def mi14 : Mi := (⟨RX1, "leaveOut", "(III)V"⟩, prog_3_method_11_code, 4, none, 1, cd14, (1, 3, (3, 23), (3, 22), (0, 7), (1, 9)))
def mi15 : Mi := (⟨RX1, "fits", "(II)Z"⟩, prog_3_method_12_code, 3, some .boolean, 1, cd15, (1, 2, (3, 19), (3, 18), (0, 6), (1, 9)))
def mi16 : Mi := (⟨RX1, "canBeBetter", "(III)Z"⟩, prog_3_method_13_code, 6, some .boolean, 1, cd16, (1, 3, (3, 8), (3, 7), (0, 4), (1, 9)))
def mi17 : Mi := (⟨RX2, "firstDayAllDone", "(LPrisonShops$State;I)I"⟩, prog_4_method_2_code, 7, some .int, 2, cd17, (1, 2, (3, 115), (3, 113), (3, 114), (1, 8)))
def mi18 : Mi := (⟨RX2, "listOrders", "(LPrisonShops$State;I)V"⟩, prog_4_method_3_code, 4, none, 2, cd18, (1, 2, (3, 119), (3, 118), (0, 8), (1, 8)))
def mi19 : Mi := (⟨RX2, "listWorkers", "(LPrisonShops$State;I)V"⟩, prog_4_method_4_code, 4, none, 2, cd19, (1, 2, (3, 137), (3, 136), (0, 10), (1, 8)))
def mi20 : Mi := (⟨RX2, "madeOn", "(II)I"⟩, prog_4_method_5_code, 5, some .int, 2, cd20, (1, 2, (3, 142), (3, 141), (0, 11), (1, 8)))
def mi21 : Mi := (⟨RX3, "size", "()I"⟩, prog_5_method_2_code, 1, some .int, 3, cd21, (1, 0, (4, 156), (4, 154), (4, 155), (1, 6)))
def mi22 : Mi := (⟨RX3, "clear", "()V"⟩, prog_5_method_3_code, 1, none, 3, cd22, (1, 0, (3, 185), (3, 183), (3, 184), (1, 6)))
def mi23 : Mi := (⟨RX3, "push", "(I)V"⟩, prog_5_method_4_code, 2, none, 3, cd23, (1, 1, (4, 47), (4, 45), (4, 46), (1, 6)))
def mi24 : Mi := (⟨RX3, "at", "(I)I"⟩, prog_5_method_5_code, 2, some .int, 3, cd24, (1, 1, (4, 160), (4, 158), (4, 159), (1, 6)))
def mi25 : Mi := (⟨RX3, "top", "()I"⟩, prog_5_method_6_code, 1, some .int, 3, cd25, (1, 0, (4, 55), (4, 53), (4, 54), (1, 6)))
def mi26 : Mi := (⟨RX3, "pop", "()I"⟩, prog_5_method_7_code, 1, some .int, 3, cd26, (1, 0, (4, 59), (4, 57), (4, 58), (1, 6)))
def mi27 : Mi := (⟨RX4, "readAll", "()I"⟩, prog_6_method_2_code, 3, some .int, 4, cd27, (1, 0, (3, 177), (3, 175), (3, 176), (1, 11)))
def mi28 : Mi := (⟨RX4, "writeTo", "(LPrisonShops$Table;I)V"⟩, prog_6_method_3_code, 4, none, 4, cd28, (1, 2, (4, 151), (4, 149), (4, 150), (1, 11)))
def mi29 : Mi := (⟨RX4, "startAnew", "()V"⟩, prog_6_method_4_code, 1, none, 4, cd29, (1, 0, (3, 181), (3, 180), (0, 12), (1, 11)))
def mi30 : Mi := (⟨RX4, "goOn", "()V"⟩, prog_6_method_5_code, 4, none, 4, cd30, (1, 0, (3, 189), (3, 188), (0, 13), (1, 11)))
def mi31 : Mi := (⟨RX4, "skipLetters", "()V"⟩, prog_6_method_6_code, 1, none, 4, cd31, (1, 0, (3, 201), (3, 200), (0, 14), (1, 11)))
def mi32 : Mi := (⟨RX4, "readDigits", "()V"⟩, prog_6_method_7_code, 1, none, 4, cd32, (1, 0, (3, 208), (3, 207), (0, 15), (1, 11)))
def mi33 : Mi := (⟨RX4, "isLetter", "(I)Z"⟩, prog_6_method_8_code, 1, some .boolean, 4, cd33, (0, 1, (3, 197), (3, 196), (0, 0), (1, 11)))
def mi34 : Mi := (⟨RX4, "isDigit", "(I)Z"⟩, prog_6_method_9_code, 1, some .boolean, 4, cd34, (0, 1, (3, 204), (3, 203), (0, 0), (1, 11)))
def mi35 : Mi := (⟨RX4, "keyHere", "()I"⟩, prog_6_method_10_code, 2, some .int, 4, cd35, (1, 0, (3, 213), (3, 212), (0, 16), (1, 11)))
def mi36 : Mi := (⟨RX4, "isSpelt", "(Ljava/lang/String;)Z"⟩, prog_6_method_11_code, 3, some .boolean, 4, cd36, (1, 1, (3, 226), (3, 225), (0, 17), (1, 11)))
def mi37 : Mi := (⟨RX4, "wordOf", "(I)Ljava/lang/String;"⟩, prog_6_method_12_code, 1, some (.object "java/lang/String"), 4, cd37, (0, 1, (3, 216), (3, 215), (0, 0), (1, 11)))
def mi38 : Mi := (⟨RX4, "namesOf", "(I)Ljava/lang/String;"⟩, prog_6_method_13_code, 1, some (.object "java/lang/String"), 4, cd38, (0, 1, (4, 66), (4, 65), (0, 0), (1, 11)))
def mi39 : Mi := (⟨RX4, "readPart", "()Z"⟩, prog_6_method_14_code, 1, some .boolean, 4, cd39, (1, 0, (4, 39), (4, 38), (0, 18), (1, 11)))
def mi40 : Mi := (⟨RX4, "takeName", "()Z"⟩, prog_6_method_15_code, 2, some .boolean, 4, cd40, (1, 0, (4, 63), (4, 62), (0, 21), (1, 11)))
def mi41 : Mi := (⟨RX4, "takePart", "(I)Z"⟩, prog_6_method_16_code, 2, some .boolean, 4, cd41, (1, 1, (4, 43), (4, 42), (0, 19), (1, 11)))
def mi42 : Mi := (⟨RX4, "takeOpening", "()Z"⟩, prog_6_method_17_code, 1, some .boolean, 4, cd42, (1, 0, (4, 131), (4, 130), (0, 22), (1, 11)))
def mi43 : Mi := (⟨RX4, "readSign", "()Z"⟩, prog_6_method_18_code, 2, some .boolean, 4, cd43, (1, 0, (4, 135), (4, 134), (0, 23), (1, 11)))
def mi44 : Mi := (⟨RX4, "takeClosing", "()Z"⟩, prog_6_method_19_code, 1, some .boolean, 4, cd44, (1, 0, (4, 139), (4, 138), (0, 24), (1, 11)))
def mi45 : Mi := (⟨RX4, "endPart", "()V"⟩, prog_6_method_20_code, 1, none, 4, cd45, (1, 0, (4, 51), (4, 50), (0, 20), (1, 11)))
def mi46 : Mi := (⟨RX4, "settle", "(I)V"⟩, prog_6_method_21_code, 3, none, 4, cd46, (1, 1, (4, 143), (4, 142), (0, 25), (1, 11)))
def mi47 : Mi := (⟨RX4, "bindsOf", "(I)I"⟩, prog_6_method_22_code, 1, some .int, 4, cd47, (0, 1, (4, 146), (4, 145), (0, 0), (1, 11)))
def mi48 : Mi := (⟨RX5, "give", "(LPrisonShops$State;IIII)I"⟩, prog_7_method_2_code, 7, some .int, 5, cd48, (1, 5, (4, 181), (4, 179), (4, 180), (1, 5)))
def mi49 : Mi := (⟨RX5, "workOut", "(LPrisonShops$Table;IIII)I"⟩, prog_7_method_3_code, 11, some .int, 5, cd49, (1, 5, (4, 187), (4, 186), (0, 26), (1, 5)))
def mi50 : Mi := (⟨RX5, "join", "(III)I"⟩, prog_7_method_4_code, 3, some .int, 5, cd50, (0, 3, (4, 197), (4, 196), (0, 0), (1, 5)))
def mi51 : Mi := (⟨RX5, "isTrue", "(Z)I"⟩, prog_7_method_5_code, 1, some .int, 5, cd51, (0, 1, (4, 194), (4, 193), (0, 0), (1, 5)))
def mi52 : Mi := (⟨RX5, "share", "(LPrisonShops$State;II)I"⟩, prog_7_method_6_code, 10, some .int, 5, cd52, (1, 3, (4, 207), (4, 205), (4, 206), (1, 5)))
def mi53 : Mi := (⟨RX6, "become", "(III)I"⟩, prog_8_method_2_code, 5, some .int, 6, cd53, (1, 3, (5, 83), (5, 81), (5, 82), (1, 12)))
def mi54 : Mi := (⟨RX6, "change", "(IIII)I"⟩, prog_8_method_3_code, 6, some .int, 6, cd54, (1, 4, (5, 97), (5, 95), (5, 96), (1, 12)))
def mi55 : Mi := (⟨RX6, "carry", "(IIIII)I"⟩, prog_8_method_4_code, 6, some .int, 6, cd55, (1, 5, (5, 118), (5, 116), (5, 117), (1, 12)))
def mi56 : Mi := (⟨RX6, "oddAt", "(I)I"⟩, prog_8_method_5_code, 5, some .int, 6, cd56, (1, 1, (5, 132), (5, 130), (5, 131), (1, 12)))
def mi57 : Mi := (⟨RX6, "isSheet", "(I)Z"⟩, prog_8_method_6_code, 1, some .boolean, 6, cd57, (0, 1, (5, 86), (5, 85), (0, 0), (1, 12)))
def mi58 : Mi := (⟨RX6, "hasPlace", "(II)Z"⟩, prog_8_method_7_code, 3, some .boolean, 6, cd58, (1, 2, (5, 102), (5, 101), (0, 33), (1, 12)))
def mi59 : Mi := (⟨RX6, "hasRow", "(III)Z"⟩, prog_8_method_8_code, 4, some .boolean, 6, cd59, (1, 3, (5, 123), (5, 122), (0, 34), (1, 12)))
def mi60 : Mi := (⟨RX6, "narrowed", "(IJ)J"⟩, prog_8_method_9_code, 3, some .long, 6, cd60, (0, 2, (5, 106), (5, 105), (0, 0), (1, 12)))
def mi61 : Mi := (⟨RX7, "becomeAs", "(LPrisonShops$State;)V"⟩, prog_9_method_2_code, 2, none, 7, cd61, (1, 1, (5, 145), (5, 143), (5, 144), (1, 2)))
def mi62 : Mi := (⟨RX7, "isFree", "(I)Z"⟩, prog_9_method_3_code, 2, some .boolean, 7, cd62, (1, 1, (2, 191), (2, 189), (2, 190), (1, 2)))
def mi63 : Mi := (⟨RX7, "handsNotFree", "()I"⟩, prog_9_method_4_code, 3, some .int, 7, cd63, (1, 0, (5, 70), (5, 68), (5, 69), (1, 2)))
def mi64 : Mi := (⟨RX7, "isBarred", "(II)Z"⟩, prog_9_method_5_code, 3, some .boolean, 7, cd64, (1, 2, (2, 174), (2, 172), (2, 173), (1, 2)))
def mi65 : Mi := (⟨RX7, "setBarred", "(IIZ)V"⟩, prog_9_method_6_code, 6, none, 7, cd65, (1, 3, (2, 178), (2, 176), (2, 177), (1, 2)))
def mi66 : Mi := (⟨RX7, "mayWork", "(II)Z"⟩, prog_9_method_7_code, 3, some .boolean, 7, cd66, (1, 2, (2, 187), (2, 185), (2, 186), (1, 2)))
def mi67 : Mi := (⟨RX7, "membersOf", "(I)I"⟩, prog_9_method_8_code, 4, some .int, 7, cd67, (1, 1, (2, 126), (2, 124), (2, 125), (1, 2)))
def mi68 : Mi := (⟨RX7, "hasRoomFor", "(II)Z"⟩, prog_9_method_9_code, 4, some .boolean, 7, cd68, (1, 2, (2, 199), (2, 197), (2, 198), (1, 2)))
def mi69 : Mi := (⟨RX7, "move", "(II)V"⟩, prog_9_method_10_code, 3, none, 7, cd69, (1, 2, (2, 206), (2, 204), (2, 205), (1, 2)))
def mi70 : Mi := (⟨RX7, "takeBack", "(II)V"⟩, prog_9_method_11_code, 4, none, 7, cd70, (1, 2, (2, 210), (2, 208), (2, 209), (1, 2)))
def mi71 : Mi := (⟨RX7, "isOutTo", "(II)Z"⟩, prog_9_method_12_code, 3, some .boolean, 7, cd71, (1, 2, (2, 214), (2, 212), (2, 213), (1, 2)))
def mi72 : Mi := (⟨RX7, "countOutTo", "(I)I"⟩, prog_9_method_13_code, 4, some .int, 7, cd72, (1, 1, (3, 83), (3, 81), (3, 82), (1, 2)))
def mi73 : Mi := (⟨RX7, "countInShops", "()I"⟩, prog_9_method_14_code, 3, some .int, 7, cd73, (1, 0, (5, 178), (5, 176), (5, 177), (1, 2)))
def mi74 : Mi := (⟨RX7, "isOfKind", "(II)Z"⟩, prog_9_method_15_code, 5, some .boolean, 7, cd74, (1, 2, (2, 147), (2, 145), (2, 146), (1, 2)))
def mi75 : Mi := (⟨RX7, "isToolOf", "(II)Z"⟩, prog_9_method_16_code, 3, some .boolean, 7, cd75, (1, 2, (3, 95), (3, 93), (3, 94), (1, 2)))
def mi76 : Mi := (⟨RX7, "countTools", "(II)I"⟩, prog_9_method_17_code, 6, some .int, 7, cd76, (1, 2, (2, 142), (2, 140), (2, 141), (1, 2)))
def mi77 : Mi := (⟨RX7, "mayHave", "(II)Z"⟩, prog_9_method_18_code, 4, some .boolean, 7, cd77, (1, 2, (3, 79), (3, 77), (3, 78), (1, 2)))
def mi78 : Mi := (⟨RX7, "agreesAtBell", "(IZ)Z"⟩, prog_9_method_19_code, 5, some .boolean, 7, cd78, (1, 2, (3, 99), (3, 97), (3, 98), (1, 2)))
def mi79 : Mi := (⟨RX7, "isOpenOrder", "(I)Z"⟩, prog_9_method_20_code, 2, some .boolean, 7, cd79, (1, 1, (3, 128), (3, 126), (3, 127), (1, 2)))
def mi80 : Mi := (⟨RX7, "countOpenOrders", "()I"⟩, prog_9_method_21_code, 3, some .int, 7, cd80, (1, 0, (5, 182), (5, 180), (5, 181), (1, 2)))
def mi81 : Mi := (⟨RX7, "nextOrder", "(II)I"⟩, prog_9_method_22_code, 5, some .int, 7, cd81, (1, 2, (3, 124), (3, 122), (3, 123), (1, 2)))
def mi82 : Mi := (⟨RX7, "comesAhead", "(II)Z"⟩, prog_9_method_23_code, 5, some .boolean, 7, cd82, (1, 2, (3, 132), (3, 131), (0, 9), (1, 2)))
def mi83 : Mi := (⟨RX7, "textInForce", "(I)I"⟩, prog_9_method_24_code, 5, some .int, 7, cd83, (1, 1, (4, 173), (4, 171), (4, 172), (1, 2)))
def mi84 : Mi := (⟨RX7, "addPence", "(III)V"⟩, prog_9_method_25_code, 4, none, 7, cd84, (1, 3, (4, 212), (4, 210), (4, 211), (1, 2)))
def mi85 : Mi := (⟨RX7, "addEvent", "(II)I"⟩, prog_9_method_26_code, 4, some .int, 7, cd85, (1, 2, (4, 231), (4, 229), (4, 230), (1, 2)))
def mi86 : Mi := (⟨RX7, "endAsKnown", "(II)I"⟩, prog_9_method_27_code, 5, some .int, 7, cd86, (1, 2, (5, 12), (5, 10), (5, 11), (1, 2)))
def mi87 : Mi := (⟨RX7, "countsOn", "(II)Z"⟩, prog_9_method_28_code, 4, some .boolean, 7, cd87, (1, 2, (5, 16), (5, 15), (0, 28), (1, 2)))
def mi88 : Mi := (⟨RX7, "draw", "(I)I"⟩, prog_9_method_29_code, 6, some .int, 7, cd88, (1, 1, (5, 74), (5, 72), (5, 73), (1, 2)))
def mi89 : Mi := (⟨RX7, "sumOfEarned", "()I"⟩, prog_9_method_30_code, 3, some .int, 7, cd89, (1, 0, (5, 154), (5, 152), (5, 153), (1, 2)))
def mi90 : Mi := (⟨RX7, "sumOfMade", "()I"⟩, prog_9_method_31_code, 3, some .int, 7, cd90, (1, 0, (5, 162), (5, 160), (5, 161), (1, 2)))
def mi91 : Mi := (⟨RX8, "rows", "()I"⟩, prog_10_method_2_code, 1, some .int, 8, cd91, (1, 0, (2, 130), (2, 128), (2, 129), (1, 3)))
def mi92 : Mi := (⟨RX8, "isFull", "()Z"⟩, prog_10_method_3_code, 1, some .boolean, 8, cd92, (1, 0, (2, 87), (2, 85), (2, 86), (1, 3)))
def mi93 : Mi := (⟨RX8, "holds", "(I)Z"⟩, prog_10_method_4_code, 2, some .boolean, 8, cd93, (1, 1, (2, 105), (2, 103), (2, 104), (1, 3)))
def mi94 : Mi := (⟨RX8, "get", "(II)I"⟩, prog_10_method_5_code, 3, some .int, 8, cd94, (1, 2, (2, 113), (2, 111), (2, 112), (1, 3)))
def mi95 : Mi := (⟨RX8, "set", "(III)V"⟩, prog_10_method_6_code, 4, none, 8, cd95, (1, 3, (2, 97), (2, 95), (2, 96), (1, 3)))
def mi96 : Mi := (⟨RX8, "swap", "(III)I"⟩, prog_10_method_7_code, 5, some .int, 8, cd96, (1, 3, (2, 109), (2, 107), (2, 108), (1, 3)))
def mi97 : Mi := (⟨RX8, "raise", "(III)V"⟩, prog_10_method_8_code, 4, none, 8, cd97, (1, 3, (5, 38), (5, 36), (5, 37), (1, 3)))
def mi98 : Mi := (⟨RX8, "add", "()I"⟩, prog_10_method_9_code, 1, some .int, 8, cd98, (1, 0, (2, 92), (2, 90), (2, 91), (1, 3)))
def mi99 : Mi := (⟨RX8, "becomeAs", "(LPrisonShops$Table;)V"⟩, prog_10_method_10_code, 2, none, 8, cd99, (1, 1, (5, 149), (5, 147), (5, 148), (1, 3)))
def mi100 : Mi := (⟨RX9, "size", "()I"⟩, prog_11_method_2_code, 1, some .int, 9, cd100, (1, 0, (3, 159), (3, 157), (3, 158), (1, 10)))
def mi101 : Mi := (⟨RX9, "hasRoom", "()Z"⟩, prog_11_method_3_code, 1, some .boolean, 9, cd101, (1, 0, (3, 151), (3, 149), (3, 150), (1, 10)))
def mi102 : Mi := (⟨RX9, "add", "(I)V"⟩, prog_11_method_4_code, 3, none, 9, cd102, (1, 1, (3, 155), (3, 153), (3, 154), (1, 10)))
def mi103 : Mi := (⟨RX9, "cutTo", "(I)V"⟩, prog_11_method_5_code, 2, none, 9, cd103, (1, 1, (3, 167), (3, 165), (3, 166), (1, 10)))
def mi104 : Mi := (⟨RX9, "at", "(I)I"⟩, prog_11_method_6_code, 2, some .int, 9, cd104, (1, 1, (3, 194), (3, 192), (3, 193), (1, 10)))
def mi105 : Mi := (⟨RX10, "shop", "(III)I"⟩, prog_1_method_2_code, 5, some .int, 10, cd105, (1, 3, (2, 79), (2, 77), (2, 78), (1, 1)))
def mi106 : Mi := (⟨RX10, "rate", "(II)I"⟩, prog_1_method_3_code, 3, some .int, 10, cd106, (1, 2, (2, 101), (2, 99), (2, 100), (1, 1)))
def mi107 : Mi := (⟨RX10, "lock", "(II)I"⟩, prog_1_method_4_code, 3, some .int, 10, cd107, (1, 2, (2, 118), (2, 116), (2, 117), (1, 1)))
def mi108 : Mi := (⟨RX10, "has", "(II)I"⟩, prog_1_method_5_code, 3, some .int, 10, cd108, (1, 2, (2, 122), (2, 120), (2, 121), (1, 1)))
def mi109 : Mi := (⟨RX10, "hand", "(III)I"⟩, prog_1_method_6_code, 5, some .int, 10, cd109, (1, 3, (2, 154), (2, 152), (2, 153), (1, 1)))
def mi110 : Mi := (⟨RX10, "is", "(II)I"⟩, prog_1_method_7_code, 3, some .int, 10, cd110, (1, 2, (2, 158), (2, 156), (2, 157), (1, 1)))
def mi111 : Mi := (⟨RX10, "be", "(III)I"⟩, prog_1_method_8_code, 4, some .int, 10, cd111, (1, 3, (2, 162), (2, 160), (2, 161), (1, 1)))
def mi112 : Mi := (⟨RX10, "canBecome", "(II)Z"⟩, prog_1_method_9_code, 3, some .boolean, 10, cd112, (1, 2, (2, 166), (2, 165), (0, 0), (1, 1)))
def mi113 : Mi := (⟨RX10, "bar", "(III)I"⟩, prog_1_method_10_code, 5, some .int, 10, cd113, (1, 3, (2, 170), (2, 168), (2, 169), (1, 1)))
def mi114 : Mi := (⟨RX10, "may", "(II)I"⟩, prog_1_method_11_code, 3, some .int, 10, cd114, (1, 2, (2, 183), (2, 181), (2, 182), (1, 1)))
def mi115 : Mi := (⟨RX10, "put", "(II)I"⟩, prog_1_method_12_code, 4, some .int, 10, cd115, (1, 2, (2, 195), (2, 193), (2, 194), (1, 1)))
def mi116 : Mi := (⟨RX10, "filling", "(I)I"⟩, prog_1_method_13_code, 2, some .int, 10, cd116, (1, 1, (2, 218), (2, 216), (2, 217), (1, 1)))
def mi117 : Mi := (⟨RX10, "fill", "()I"⟩, prog_1_method_14_code, 3, some .int, 10, cd117, (1, 0, (3, 40), (3, 38), (3, 39), (1, 1)))
def mi118 : Mi := (⟨RX10, "never", "()I"⟩, prog_1_method_15_code, 3, some .int, 10, cd118, (1, 0, (3, 45), (3, 43), (3, 44), (1, 1)))
def mi119 : Mi := (⟨RX10, "thing", "(IIII)I"⟩, prog_1_method_16_code, 6, some .int, 10, cd119, (1, 4, (3, 49), (3, 47), (3, 48), (1, 1)))
def mi120 : Mi := (⟨RX10, "told", "(II)I"⟩, prog_1_method_17_code, 3, some .int, 10, cd120, (1, 2, (3, 65), (3, 63), (3, 64), (1, 1)))
def mi121 : Mi := (⟨RX10, "as", "(II)I"⟩, prog_1_method_18_code, 3, some .int, 10, cd121, (1, 2, (3, 69), (3, 67), (3, 68), (1, 1)))
def mi122 : Mi := (⟨RX10, "out", "(II)I"⟩, prog_1_method_19_code, 3, some .int, 10, cd122, (1, 2, (3, 75), (3, 73), (3, 74), (1, 1)))
def mi123 : Mi := (⟨RX10, "hang", "(I)I"⟩, prog_1_method_20_code, 2, some .int, 10, cd123, (1, 1, (3, 87), (3, 85), (3, 86), (1, 1)))
def mi124 : Mi := (⟨RX10, "bell", "(II)I"⟩, prog_1_method_21_code, 6, some .int, 10, cd124, (1, 2, (3, 91), (3, 89), (3, 90), (1, 1)))
def mi125 : Mi := (⟨RX10, "who", "(I)I"⟩, prog_1_method_22_code, 4, some .int, 10, cd125, (1, 1, (3, 103), (3, 101), (3, 102), (1, 1)))
def mi126 : Mi := (⟨RX10, "late", "(I)I"⟩, prog_1_method_23_code, 3, some .int, 10, cd126, (1, 1, (3, 107), (3, 105), (3, 106), (1, 1)))
def mi127 : Mi := (⟨RX10, "foretold", "(I)I"⟩, prog_1_method_24_code, 2, some .int, 10, cd127, (1, 1, (3, 111), (3, 109), (3, 110), (1, 1)))
def mi128 : Mi := (⟨RX10, "feed", "(III)I"⟩, prog_1_method_25_code, 4, some .int, 10, cd128, (1, 3, (3, 147), (3, 145), (3, 146), (1, 1)))
def mi129 : Mi := (⟨RX10, "trim", "(I)I"⟩, prog_1_method_26_code, 2, some .int, 10, cd129, (1, 1, (3, 163), (3, 161), (3, 162), (1, 1)))
def mi130 : Mi := (⟨RX10, "text", "(I)I"⟩, prog_1_method_27_code, 4, some .int, 10, cd130, (1, 1, (3, 173), (3, 171), (3, 172), (1, 1)))
def mi131 : Mi := (⟨RX10, "of", "(II)I"⟩, prog_1_method_28_code, 3, some .int, 10, cd131, (1, 2, (4, 165), (4, 163), (4, 164), (1, 1)))
def mi132 : Mi := (⟨RX10, "why", "(I)I"⟩, prog_1_method_29_code, 2, some .int, 10, cd132, (1, 1, (4, 169), (4, 167), (4, 168), (1, 1)))
def mi133 : Mi := (⟨RX10, "rules", "(IIII)I"⟩, prog_1_method_30_code, 5, some .int, 10, cd133, (1, 4, (4, 177), (4, 175), (4, 176), (1, 1)))
def mi134 : Mi := (⟨RX10, "pay", "(I)I"⟩, prog_1_method_31_code, 5, some .int, 10, cd134, (1, 1, (4, 203), (4, 201), (4, 202), (1, 1)))
def mi135 : Mi := (⟨RX10, "takes", "(II)I"⟩, prog_1_method_32_code, 3, some .int, 10, cd135, (1, 2, (4, 218), (4, 216), (4, 217), (1, 1)))
def mi136 : Mi := (⟨RX10, "earn", "(I)I"⟩, prog_1_method_33_code, 7, some .int, 10, cd136, (1, 1, (4, 222), (4, 220), (4, 221), (1, 1)))
def mi137 : Mi := (⟨RX10, "lose", "(II)I"⟩, prog_1_method_34_code, 4, some .int, 10, cd137, (1, 2, (4, 236), (4, 234), (4, 235), (1, 1)))
def mi138 : Mi := (⟨RX10, "refusalOfEvent", "(I)I"⟩, prog_1_method_35_code, 2, some .int, 10, cd138, (1, 1, (4, 226), (4, 225), (0, 27), (1, 1)))
def mi139 : Mi := (⟨RX10, "appeal", "(I)I"⟩, prog_1_method_36_code, 2, some .int, 10, cd139, (1, 1, (5, 0), (4, 238), (4, 239), (1, 1)))
def mi140 : Mi := (⟨RX10, "event", "(II)I"⟩, prog_1_method_37_code, 3, some .int, 10, cd140, (1, 2, (5, 4), (5, 2), (5, 3), (1, 1)))
def mi141 : Mi := (⟨RX10, "end", "(II)I"⟩, prog_1_method_38_code, 3, some .int, 10, cd141, (1, 2, (5, 8), (5, 6), (5, 7), (1, 1)))
def mi142 : Mi := (⟨RX10, "run", "(I)I"⟩, prog_1_method_39_code, 3, some .int, 10, cd142, (1, 1, (5, 20), (5, 18), (5, 19), (1, 1)))
def mi143 : Mi := (⟨RX10, "seed", "(I)I"⟩, prog_1_method_40_code, 3, some .int, 10, cd143, (1, 1, (5, 61), (5, 59), (5, 60), (1, 1)))
def mi144 : Mi := (⟨RX10, "search", "(I)I"⟩, prog_1_method_41_code, 5, some .int, 10, cd144, (1, 1, (5, 66), (5, 64), (5, 65), (1, 1)))
def mi145 : Mi := (⟨RX10, "sheet", "(III)I"⟩, prog_1_method_42_code, 4, some .int, 10, cd145, (1, 3, (5, 79), (5, 77), (5, 78), (1, 1)))
def mi146 : Mi := (⟨RX10, "mark", "(III)I"⟩, prog_1_method_43_code, 4, some .int, 10, cd146, (1, 3, (5, 93), (5, 91), (5, 92), (1, 1)))
def mi147 : Mi := (⟨RX10, "grow", "(III)I"⟩, prog_1_method_44_code, 4, some .int, 10, cd147, (1, 3, (5, 110), (5, 108), (5, 109), (1, 1)))
def mi148 : Mi := (⟨RX10, "copy", "(IIIII)I"⟩, prog_1_method_45_code, 6, some .int, 10, cd148, (1, 5, (5, 114), (5, 112), (5, 113), (1, 1)))
def mi149 : Mi := (⟨RX10, "odd", "(I)I"⟩, prog_1_method_46_code, 2, some .int, 10, cd149, (1, 1, (5, 128), (5, 126), (5, 127), (1, 1)))
def mi150 : Mi := (⟨RX10, "tell", "(I)I"⟩, prog_1_method_47_code, 2, some .int, 10, cd150, (1, 1, (5, 137), (5, 135), (5, 136), (1, 1)))
def mi151 : Mi := (⟨RX10, "check", "(I)I"⟩, prog_1_method_48_code, 4, some .int, 10, cd151, (1, 1, (5, 141), (5, 139), (5, 140), (1, 1)))
def mi152 : Mi := (⟨RX10, "wasTold", "(III)Z"⟩, prog_1_method_49_code, 4, some .boolean, 10, cd152, (1, 3, (5, 158), (5, 157), (0, 35), (1, 1)))
def mi153 : Mi := (⟨RX10, "keep", "()I"⟩, prog_1_method_50_code, 1, some .int, 10, cd153, (1, 0, (5, 166), (5, 164), (5, 165), (1, 1)))
def mi154 : Mi := (⟨RX10, "back", "()I"⟩, prog_1_method_51_code, 1, some .int, 10, cd154, (1, 0, (5, 170), (5, 168), (5, 169), (1, 1)))
def mi155 : Mi := (⟨RX10, "count", "(I)I"⟩, prog_1_method_52_code, 2, some .int, 10, cd155, (1, 1, (5, 174), (5, 172), (5, 173), (1, 1)))
def mi156 : Mi := (⟨RX10, "isWithin", "(III)Z"⟩, prog_1_method_53_code, 3, some .boolean, 10, cd156, (0, 3, (2, 82), (2, 81), (0, 0), (1, 1)))
def mi157 : Mi := (⟨RX10, "isKind", "(I)Z"⟩, prog_1_method_54_code, 1, some .boolean, 10, cd157, (0, 1, (3, 52), (3, 51), (0, 0), (1, 1)))
def mi158 : Mi := (⟨RX10, "fitsKind", "(III)Z"⟩, prog_1_method_55_code, 3, some .boolean, 10, cd158, (0, 3, (3, 55), (3, 54), (0, 0), (1, 1)))
def mi159 : Mi := (⟨RX11, "isIn", "(JJJ)Z"⟩, prog_13_method_2_code, 6, some .boolean, 11, cd159, (0, 3, (6, 66), (6, 65), (0, 0), (1, 13)))
def mi160 : Mi := (⟨RX11, "orNone", "(I)I"⟩, prog_13_method_3_code, 1, some .int, 11, cd160, (0, 1, (6, 132), (6, 131), (0, 0), (1, 13)))
def mi161 : Mi := (⟨RX11, "least", "(II)I"⟩, prog_13_method_4_code, 2, some .int, 11, cd161, (0, 2, (7, 118), (7, 117), (0, 0), (1, 13)))
def mi162 : Mi := (⟨RX11, "becomes", "(II)I"⟩, prog_13_method_5_code, 4, some .int, 11, cd162, (1, 2, (6, 86), (6, 85), (0, 38), (1, 13)))
def mi163 : Mi := (⟨RX11, "shopAt", "(I)I"⟩, prog_13_method_6_code, 2, some .int, 11, cd163, (1, 1, (6, 73), (6, 72), (0, 36), (1, 13)))
def mi164 : Mi := (⟨RX11, "handAt", "(I)I"⟩, prog_13_method_7_code, 2, some .int, 11, cd164, (1, 1, (6, 115), (6, 114), (0, 43), (1, 13)))
def mi165 : Mi := (⟨RX11, "thingAt", "(I)I"⟩, prog_13_method_8_code, 2, some .int, 11, cd165, (1, 1, (6, 107), (6, 106), (0, 41), (1, 13)))
def mi166 : Mi := (⟨RX11, "textAt", "(I)I"⟩, prog_13_method_9_code, 2, some .int, 11, cd166, (1, 1, (7, 20), (7, 19), (0, 55), (1, 13)))
def mi167 : Mi := (⟨RX11, "eventAt", "(I)I"⟩, prog_13_method_10_code, 2, some .int, 11, cd167, (1, 1, (7, 147), (7, 146), (0, 77), (1, 13)))
def mi168 : Mi := (⟨RX11, "isShop", "(I)Z"⟩, prog_13_method_11_code, 2, some .boolean, 11, cd168, (1, 1, (6, 81), (6, 80), (0, 37), (1, 13)))
def mi169 : Mi := (⟨RX11, "isHand", "(I)Z"⟩, prog_13_method_12_code, 2, some .boolean, 11, cd169, (1, 1, (6, 128), (6, 127), (0, 44), (1, 13)))
def mi170 : Mi := (⟨RX11, "isThing", "(I)Z"⟩, prog_13_method_13_code, 2, some .boolean, 11, cd170, (1, 1, (6, 206), (6, 205), (0, 52), (1, 13)))
def mi171 : Mi := (⟨RX11, "isText", "(I)Z"⟩, prog_13_method_14_code, 2, some .boolean, 11, cd171, (1, 1, (7, 91), (7, 90), (0, 70), (1, 13)))
def mi172 : Mi := (⟨RX11, "isFree", "(I)Z"⟩, prog_13_method_15_code, 2, some .boolean, 11, cd172, (1, 1, (6, 154), (6, 153), (0, 46), (1, 13)))
def mi173 : Mi := (⟨RX11, "isTool", "(I)Z"⟩, prog_13_method_16_code, 2, some .boolean, 11, cd173, (1, 1, (6, 103), (6, 102), (0, 40), (1, 13)))
def mi174 : Mi := (⟨RX11, "gets", "(III)V"⟩, prog_13_method_17_code, 4, none, 11, cd174, (1, 3, (7, 130), (7, 129), (0, 75), (1, 13)))
def mi175 : Mi := (⟨RX11, "shop", "(III)I"⟩, prog_13_method_18_code, 6, some .int, 11, cd175, (1, 3, (6, 62), (6, 60), (6, 61), (1, 13)))
def mi176 : Mi := (⟨RX11, "rate", "(II)I"⟩, prog_13_method_19_code, 3, some .int, 11, cd176, (1, 2, (6, 77), (6, 75), (6, 76), (1, 13)))
def mi177 : Mi := (⟨RX11, "lock", "(II)I"⟩, prog_13_method_20_code, 3, some .int, 11, cd177, (1, 2, (6, 90), (6, 88), (6, 89), (1, 13)))
def mi178 : Mi := (⟨RX11, "handsIn", "(I)I"⟩, prog_13_method_21_code, 4, some .int, 11, cd178, (1, 1, (6, 111), (6, 110), (0, 42), (1, 13)))
def mi179 : Mi := (⟨RX11, "tools", "(II)I"⟩, prog_13_method_22_code, 5, some .int, 11, cd179, (1, 2, (6, 99), (6, 98), (0, 39), (1, 13)))
def mi180 : Mi := (⟨RX11, "has", "(II)I"⟩, prog_13_method_23_code, 3, some .int, 11, cd180, (1, 2, (6, 94), (6, 92), (6, 93), (1, 13)))
def mi181 : Mi := (⟨RX11, "hand", "(III)I"⟩, prog_13_method_24_code, 6, some .int, 11, cd181, (1, 3, (6, 119), (6, 117), (6, 118), (1, 13)))
def mi182 : Mi := (⟨RX11, "is", "(II)I"⟩, prog_13_method_25_code, 4, some .int, 11, cd182, (1, 2, (6, 124), (6, 122), (6, 123), (1, 13)))
def mi183 : Mi := (⟨RX11, "be", "(III)I"⟩, prog_13_method_26_code, 5, some .int, 11, cd183, (1, 3, (6, 137), (6, 135), (6, 136), (1, 13)))
def mi184 : Mi := (⟨RX11, "isBarred", "(II)Z"⟩, prog_13_method_27_code, 3, some .boolean, 11, cd184, (1, 2, (6, 162), (6, 161), (0, 47), (1, 13)))
def mi185 : Mi := (⟨RX11, "bar", "(III)I"⟩, prog_13_method_28_code, 4, some .int, 11, cd185, (1, 3, (6, 142), (6, 140), (6, 141), (1, 13)))
def mi186 : Mi := (⟨RX11, "mayWork", "(II)Z"⟩, prog_13_method_29_code, 5, some .boolean, 11, cd186, (1, 2, (6, 150), (6, 149), (0, 45), (1, 13)))
def mi187 : Mi := (⟨RX11, "may", "(II)I"⟩, prog_13_method_30_code, 3, some .int, 11, cd187, (1, 2, (6, 146), (6, 144), (6, 145), (1, 13)))
def mi188 : Mi := (⟨RX11, "goes", "(II)V"⟩, prog_13_method_31_code, 5, none, 11, cd188, (1, 2, (6, 167), (6, 166), (0, 48), (1, 13)))
def mi189 : Mi := (⟨RX11, "put", "(II)I"⟩, prog_13_method_32_code, 8, some .int, 11, cd189, (1, 2, (6, 158), (6, 156), (6, 157), (1, 13)))
def mi190 : Mi := (⟨RX11, "canHave", "(II)Z"⟩, prog_13_method_33_code, 5, some .boolean, 11, cd190, (1, 2, (6, 183), (6, 182), (0, 51), (1, 13)))
def mi191 : Mi := (⟨RX11, "seek", "(III)V"⟩, prog_13_method_34_code, 6, none, 11, cd191, (1, 3, (6, 179), (6, 178), (0, 50), (1, 13)))
def mi192 : Mi := (⟨RX11, "findFilling", "()V"⟩, prog_13_method_35_code, 1, none, 11, cd192, (1, 0, (6, 175), (6, 174), (0, 49), (1, 13)))
def mi193 : Mi := (⟨RX11, "filling", "(I)I"⟩, prog_13_method_36_code, 2, some .int, 11, cd193, (1, 1, (6, 171), (6, 169), (6, 170), (1, 13)))
def mi194 : Mi := (⟨RX11, "fill", "()I"⟩, prog_13_method_37_code, 4, some .int, 11, cd194, (1, 0, (6, 187), (6, 185), (6, 186), (1, 13)))
def mi195 : Mi := (⟨RX11, "never", "()I"⟩, prog_13_method_38_code, 3, some .int, 11, cd195, (1, 0, (6, 191), (6, 189), (6, 190), (1, 13)))
def mi196 : Mi := (⟨RX11, "fits", "(III)Z"⟩, prog_13_method_39_code, 3, some .boolean, 11, cd196, (0, 3, (6, 198), (6, 197), (0, 0), (1, 13)))
def mi197 : Mi := (⟨RX11, "thing", "(IIII)I"⟩, prog_13_method_40_code, 7, some .int, 11, cd197, (1, 4, (6, 195), (6, 193), (6, 194), (1, 13)))
def mi198 : Mi := (⟨RX11, "told", "(II)I"⟩, prog_13_method_41_code, 4, some .int, 11, cd198, (1, 2, (6, 202), (6, 200), (6, 201), (1, 13)))
def mi199 : Mi := (⟨RX11, "as", "(II)I"⟩, prog_13_method_42_code, 5, some .int, 11, cd199, (1, 2, (6, 211), (6, 209), (6, 210), (1, 13)))
def mi200 : Mi := (⟨RX11, "out", "(II)I"⟩, prog_13_method_43_code, 8, some .int, 11, cd200, (1, 2, (6, 216), (6, 214), (6, 215), (1, 13)))
def mi201 : Mi := (⟨RX11, "hang", "(I)I"⟩, prog_13_method_44_code, 3, some .int, 11, cd201, (1, 1, (6, 220), (6, 218), (6, 219), (1, 13)))
def mi202 : Mi := (⟨RX11, "bell", "(II)I"⟩, prog_13_method_45_code, 9, some .int, 11, cd202, (1, 2, (6, 224), (6, 222), (6, 223), (1, 13)))
def mi203 : Mi := (⟨RX11, "who", "(I)I"⟩, prog_13_method_46_code, 5, some .int, 11, cd203, (1, 1, (6, 228), (6, 226), (6, 227), (1, 13)))
def mi204 : Mi := (⟨RX11, "late", "(I)I"⟩, prog_13_method_47_code, 3, some .int, 11, cd204, (1, 1, (6, 232), (6, 230), (6, 231), (1, 13)))
def mi205 : Mi := (⟨RX11, "nextOrder", "(I)I"⟩, prog_13_method_48_code, 6, some .int, 11, cd205, (1, 1, (7, 0), (6, 239), (0, 53), (1, 13)))
def mi206 : Mi := (⟨RX11, "foretold", "(I)I"⟩, prog_13_method_49_code, 6, some .int, 11, cd206, (1, 1, (6, 236), (6, 234), (6, 235), (1, 13)))
def mi207 : Mi := (⟨RX11, "feed", "(III)I"⟩, prog_13_method_50_code, 6, some .int, 11, cd207, (1, 3, (7, 4), (7, 2), (7, 3), (1, 13)))
def mi208 : Mi := (⟨RX11, "trim", "(I)I"⟩, prog_13_method_51_code, 2, some .int, 11, cd208, (1, 1, (7, 8), (7, 6), (7, 7), (1, 13)))
def mi209 : Mi := (⟨RX11, "isLetter", "(I)Z"⟩, prog_13_method_52_code, 2, some .boolean, 11, cd209, (1, 1, (7, 28), (7, 27), (0, 57), (1, 13)))
def mi210 : Mi := (⟨RX11, "isDigit", "(I)Z"⟩, prog_13_method_53_code, 2, some .boolean, 11, cd210, (1, 1, (7, 34), (7, 33), (0, 58), (1, 13)))
def mi211 : Mi := (⟨RX11, "next", "()V"⟩, prog_13_method_54_code, 3, none, 11, cd211, (1, 0, (7, 24), (7, 23), (0, 56), (1, 13)))
def mi212 : Mi := (⟨RX11, "isSign", "(I)Z"⟩, prog_13_method_55_code, 2, some .boolean, 11, cd212, (1, 1, (7, 83), (7, 82), (0, 69), (1, 13)))
def mi213 : Mi := (⟨RX11, "isWordAt", "(IIII)Z"⟩, prog_13_method_56_code, 6, some .boolean, 11, cd213, (1, 4, (7, 44), (7, 43), (0, 60), (1, 13)))
def mi214 : Mi := (⟨RX11, "isLong", "(IIIIII)Z"⟩, prog_13_method_57_code, 8, some .boolean, 11, cd214, (1, 6, (7, 48), (7, 47), (0, 61), (1, 13)))
def mi215 : Mi := (⟨RX11, "key", "()I"⟩, prog_13_method_58_code, 2, some .int, 11, cd215, (1, 0, (7, 40), (7, 39), (0, 59), (1, 13)))
def mi216 : Mi := (⟨RX11, "isName", "(II)Z"⟩, prog_13_method_59_code, 2, some .boolean, 11, cd216, (0, 2, (7, 79), (7, 78), (0, 0), (1, 13)))
def mi217 : Mi := (⟨RX11, "step", "(II)V"⟩, prog_13_method_60_code, 3, none, 11, cd217, (1, 2, (7, 76), (7, 75), (0, 68), (1, 13)))
def mi218 : Mi := (⟨RX11, "either", "(I)Z"⟩, prog_13_method_61_code, 2, some .boolean, 11, cd218, (1, 1, (7, 52), (7, 51), (0, 62), (1, 13)))
def mi219 : Mi := (⟨RX11, "both", "(I)Z"⟩, prog_13_method_62_code, 2, some .boolean, 11, cd219, (1, 1, (7, 56), (7, 55), (0, 63), (1, 13)))
def mi220 : Mi := (⟨RX11, "test", "(I)Z"⟩, prog_13_method_63_code, 3, some .boolean, 11, cd220, (1, 1, (7, 60), (7, 59), (0, 64), (1, 13)))
def mi221 : Mi := (⟨RX11, "sum", "(I)Z"⟩, prog_13_method_64_code, 3, some .boolean, 11, cd221, (1, 1, (7, 64), (7, 63), (0, 65), (1, 13)))
def mi222 : Mi := (⟨RX11, "term", "(I)Z"⟩, prog_13_method_65_code, 3, some .boolean, 11, cd222, (1, 1, (7, 68), (7, 67), (0, 66), (1, 13)))
def mi223 : Mi := (⟨RX11, "part0", "(I)Z"⟩, prog_13_method_66_code, 2, some .boolean, 11, cd223, (1, 1, (7, 72), (7, 71), (0, 67), (1, 13)))
def mi224 : Mi := (⟨RX11, "parse", "()I"⟩, prog_13_method_67_code, 3, some .int, 11, cd224, (1, 0, (7, 16), (7, 15), (0, 54), (1, 13)))
def mi225 : Mi := (⟨RX11, "text", "(I)I"⟩, prog_13_method_68_code, 5, some .int, 11, cd225, (1, 1, (7, 12), (7, 10), (7, 11), (1, 13)))
def mi226 : Mi := (⟨RX11, "of", "(II)I"⟩, prog_13_method_69_code, 3, some .int, 11, cd226, (1, 2, (7, 87), (7, 85), (7, 86), (1, 13)))
def mi227 : Mi := (⟨RX11, "counts", "(I)I"⟩, prog_13_method_70_code, 5, some .int, 11, cd227, (1, 1, (7, 100), (7, 99), (0, 71), (1, 13)))
def mi228 : Mi := (⟨RX11, "why", "(I)I"⟩, prog_13_method_71_code, 2, some .int, 11, cd228, (1, 1, (7, 96), (7, 94), (7, 95), (1, 13)))
def mi229 : Mi := (⟨RX11, "joined", "(III)I"⟩, prog_13_method_72_code, 3, some .int, 11, cd229, (0, 3, (7, 115), (7, 114), (0, 0), (1, 13)))
def mi230 : Mi := (⟨RX11, "worked", "(I)I"⟩, prog_13_method_73_code, 6, some .int, 11, cd230, (1, 1, (7, 112), (7, 111), (0, 73), (1, 13)))
def mi231 : Mi := (⟨RX11, "ruleOf", "(IIII)I"⟩, prog_13_method_74_code, 7, some .int, 11, cd231, (1, 4, (7, 108), (7, 107), (0, 72), (1, 13)))
def mi232 : Mi := (⟨RX11, "rules", "(IIII)I"⟩, prog_13_method_75_code, 5, some .int, 11, cd232, (1, 4, (7, 104), (7, 102), (7, 103), (1, 13)))
def mi233 : Mi := (⟨RX11, "reckon", "(I)V"⟩, prog_13_method_76_code, 5, none, 11, cd233, (1, 1, (7, 126), (7, 125), (0, 74), (1, 13)))
def mi234 : Mi := (⟨RX11, "pay", "(I)I"⟩, prog_13_method_77_code, 2, some .int, 11, cd234, (1, 1, (7, 122), (7, 120), (7, 121), (1, 13)))
def mi235 : Mi := (⟨RX11, "takes", "(II)I"⟩, prog_13_method_78_code, 3, some .int, 11, cd235, (1, 2, (7, 135), (7, 133), (7, 134), (1, 13)))
def mi236 : Mi := (⟨RX11, "newEvent", "(II)I"⟩, prog_13_method_79_code, 4, some .int, 11, cd236, (1, 2, (7, 143), (7, 142), (0, 76), (1, 13)))
def mi237 : Mi := (⟨RX11, "earn", "(I)I"⟩, prog_13_method_80_code, 5, some .int, 11, cd237, (1, 1, (7, 139), (7, 137), (7, 138), (1, 13)))
def mi238 : Mi := (⟨RX11, "lose", "(II)I"⟩, prog_13_method_81_code, 3, some .int, 11, cd238, (1, 2, (7, 151), (7, 149), (7, 150), (1, 13)))
def mi239 : Mi := (⟨RX11, "isEvent", "(I)Z"⟩, prog_13_method_82_code, 2, some .boolean, 11, cd239, (1, 1, (7, 159), (7, 158), (0, 78), (1, 13)))
def mi240 : Mi := (⟨RX11, "appeal", "(I)I"⟩, prog_13_method_83_code, 3, some .int, 11, cd240, (1, 1, (7, 155), (7, 153), (7, 154), (1, 13)))
def mi241 : Mi := (⟨RX11, "event", "(II)I"⟩, prog_13_method_84_code, 4, some .int, 11, cd241, (1, 2, (7, 163), (7, 161), (7, 162), (1, 13)))
def mi242 : Mi := (⟨RX11, "endOf", "(II)I"⟩, prog_13_method_85_code, 7, some .int, 11, cd242, (1, 2, (7, 171), (7, 170), (0, 79), (1, 13)))
def mi243 : Mi := (⟨RX11, "end", "(II)I"⟩, prog_13_method_86_code, 3, some .int, 11, cd243, (1, 2, (7, 167), (7, 165), (7, 166), (1, 13)))
def mi244 : Mi := (⟨RX11, "works", "(I)V"⟩, prog_13_method_87_code, 5, none, 11, cd244, (1, 1, (7, 184), (7, 183), (0, 81), (1, 13)))
def mi245 : Mi := (⟨RX11, "delivers", "(I)V"⟩, prog_13_method_88_code, 3, none, 11, cd245, (1, 1, (7, 188), (7, 187), (0, 82), (1, 13)))
def mi246 : Mi := (⟨RX11, "leaves", "(I)V"⟩, prog_13_method_89_code, 5, none, 11, cd246, (1, 1, (7, 192), (7, 191), (0, 83), (1, 13)))
def mi247 : Mi := (⟨RX11, "oneDay", "()V"⟩, prog_13_method_90_code, 2, none, 11, cd247, (1, 0, (7, 180), (7, 179), (0, 80), (1, 13)))
def mi248 : Mi := (⟨RX11, "run", "(I)I"⟩, prog_13_method_91_code, 3, some .int, 11, cd248, (1, 1, (7, 175), (7, 173), (7, 174), (1, 13)))
def mi249 : Mi := (⟨RX11, "seed", "(I)I"⟩, prog_13_method_92_code, 2, some .int, 11, cd249, (1, 1, (7, 196), (7, 194), (7, 195), (1, 13)))
def mi250 : Mi := (⟨RX11, "search", "(I)I"⟩, prog_13_method_93_code, 8, some .int, 11, cd250, (1, 1, (7, 201), (7, 199), (7, 200), (1, 13)))
def mi251 : Mi := (⟨RX11, "isSheet", "(I)Z"⟩, prog_13_method_94_code, 1, some .boolean, 11, cd251, (0, 1, (7, 209), (7, 208), (0, 0), (1, 13)))
def mi252 : Mi := (⟨RX11, "narrow", "(IJ)J"⟩, prog_13_method_95_code, 3, some .long, 11, cd252, (0, 2, (7, 224), (7, 223), (0, 0), (1, 13)))
def mi253 : Mi := (⟨RX11, "sheet", "(III)I"⟩, prog_13_method_96_code, 5, some .int, 11, cd253, (1, 3, (7, 206), (7, 204), (7, 205), (1, 13)))
def mi254 : Mi := (⟨RX11, "lacks", "(II)I"⟩, prog_13_method_97_code, 3, some .int, 11, cd254, (1, 2, (7, 219), (7, 218), (0, 84), (1, 13)))
def mi255 : Mi := (⟨RX11, "mark", "(III)I"⟩, prog_13_method_98_code, 5, some .int, 11, cd255, (1, 3, (7, 215), (7, 213), (7, 214), (1, 13)))
def mi256 : Mi := (⟨RX11, "grow", "(III)I"⟩, prog_13_method_99_code, 5, some .int, 11, cd256, (1, 3, (7, 228), (7, 226), (7, 227), (1, 13)))
def mi257 : Mi := (⟨RX11, "copy", "(IIIII)I"⟩, prog_13_method_100_code, 7, some .int, 11, cd257, (1, 5, (7, 233), (7, 231), (7, 232), (1, 13)))
def mi258 : Mi := (⟨RX11, "odd", "(I)I"⟩, prog_13_method_101_code, 5, some .int, 11, cd258, (1, 1, (7, 237), (7, 235), (7, 236), (1, 13)))
def mi259 : Mi := (⟨RX11, "tell", "(I)I"⟩, prog_13_method_102_code, 2, some .int, 11, cd259, (1, 1, (8, 1), (7, 239), (8, 0), (1, 13)))
def mi260 : Mi := (⟨RX11, "setAside", "([I[I)V"⟩, prog_13_method_103_code, 4, none, 11, cd260, (1, 2, (8, 10), (8, 9), (0, 85), (1, 13)))
def mi261 : Mi := (⟨RX11, "check", "(I)I"⟩, prog_13_method_104_code, 5, some .int, 11, cd261, (1, 1, (8, 5), (8, 3), (8, 4), (1, 13)))
def mi262 : Mi := (⟨RX11, "keep", "()I"⟩, prog_13_method_105_code, 1, some .int, 11, cd262, (1, 0, (8, 14), (8, 12), (8, 13), (1, 13)))
def mi263 : Mi := (⟨RX11, "back", "()I"⟩, prog_13_method_106_code, 1, some .int, 11, cd263, (1, 0, (8, 18), (8, 16), (8, 17), (1, 13)))
def mi264 : Mi := (⟨RX11, "count", "(I)I"⟩, prog_13_method_107_code, 4, some .int, 11, cd264, (1, 1, (8, 22), (8, 20), (8, 21), (1, 13)))
def mi265 : Mi := (⟨RJ6, "bitCount", "(I)I"⟩, prog_15_method_49_code, 1, some .int, 12, cd265, (0, 1, (2, 134), (2, 133), (0, 0), (1, 14)))
def psM0 : List Mi := [mi0, mi1, mi2, mi3, mi4, mi5, mi6, mi7, mi8, mi9, mi10, mi11, mi12, mi13, mi14, mi15, mi16, mi17, mi18, mi19, mi20, mi21, mi22, mi23, mi24, mi25, mi26, mi27, mi28, mi29, mi30, mi31]
def psM1 : List Mi := [mi32, mi33, mi34, mi35, mi36, mi37, mi38, mi39, mi40, mi41, mi42, mi43, mi44, mi45, mi46, mi47, mi48, mi49, mi50, mi51, mi52, mi53, mi54, mi55, mi56, mi57, mi58, mi59, mi60, mi61, mi62, mi63]
def psM2 : List Mi := [mi64, mi65, mi66, mi67, mi68, mi69, mi70, mi71, mi72, mi73, mi74, mi75, mi76, mi77, mi78, mi79, mi80, mi81, mi82, mi83, mi84, mi85, mi86, mi87, mi88, mi89, mi90, mi91, mi92, mi93, mi94, mi95]
def psM3 : List Mi := [mi96, mi97, mi98, mi99, mi100, mi101, mi102, mi103, mi104, mi105, mi106, mi107, mi108, mi109, mi110, mi111, mi112, mi113, mi114, mi115, mi116, mi117, mi118, mi119, mi120, mi121, mi122, mi123, mi124, mi125, mi126, mi127]
def psM4 : List Mi := [mi128, mi129, mi130, mi131, mi132, mi133, mi134, mi135, mi136, mi137, mi138, mi139, mi140, mi141, mi142, mi143, mi144, mi145, mi146, mi147, mi148, mi149, mi150, mi151, mi152, mi153, mi154, mi155, mi156, mi157, mi158, mi159]
def psM5 : List Mi := [mi160, mi161, mi162, mi163, mi164, mi165, mi166, mi167, mi168, mi169, mi170, mi171, mi172, mi173, mi174, mi175, mi176, mi177, mi178, mi179, mi180, mi181, mi182, mi183, mi184, mi185, mi186, mi187, mi188, mi189, mi190, mi191]
def psM6 : List Mi := [mi192, mi193, mi194, mi195, mi196, mi197, mi198, mi199, mi200, mi201, mi202, mi203, mi204, mi205, mi206, mi207, mi208, mi209, mi210, mi211, mi212, mi213, mi214, mi215, mi216, mi217, mi218, mi219, mi220, mi221, mi222, mi223]
def psM7 : List Mi := [mi224, mi225, mi226, mi227, mi228, mi229, mi230, mi231, mi232, mi233, mi234, mi235, mi236, mi237, mi238, mi239, mi240, mi241, mi242, mi243, mi244, mi245, mi246, mi247, mi248, mi249, mi250, mi251, mi252, mi253, mi254, mi255]
def psM8 : List Mi := [mi256, mi257, mi258, mi259, mi260, mi261, mi262, mi263, mi264, mi265]
def psM : List Mi := psM0 ++ (psM1 ++ (psM2 ++ (psM3 ++ (psM4 ++ (psM5 ++ (psM6 ++ (psM7 ++ (psM8))))))))
set_option maxRecDepth 100000 in
def flT : List (Nat × Nat × Nat × Nat × Nat × Nat) := [(8, 24, 8, 0, (1, 44)), (8, 27, 8, 1, (1, 45)), (8, 9, 8, 2, (1, 46)), (8, 21, 8, 3, (1, 47)), (7, 14, 7, 0, (1, 58)), (2, 35, 7, 0, (1, 59)), (0, 31, 7, 0, (1, 60)), (10, 92, 7, 0, (1, 61)), (1, 70, 7, 0, (1, 62)), (7, 20, 7, 1, (1, 63)), (0, 15, 7, 1, (1, 64)), (2, 60, 7, 1, (1, 65)), (1, 53, 7, 1, (1, 66)), (5, 66, 7, 1, (1, 67)), (10, 136, 7, 1, (1, 68)), (7, 23, 7, 2, (1, 69)), (2, 57, 7, 2, (1, 70)), (0, 86, 7, 2, (1, 71)), (10, 189, 7, 2, (1, 72)), (7, 26, 7, 3, (1, 73)), (5, 25, 7, 3, (1, 74)), (10, 228, 7, 3, (1, 75)), (7, 29, 7, 4, (1, 76)), (10, 260, 7, 4, (1, 77)), (7, 32, 7, 5, (1, 78)), (0, 54, 7, 5, (1, 79)), (2, 50, 7, 5, (1, 80)), (5, 69, 7, 5, (1, 81)), (10, 143, 7, 5, (1, 82)), (7, 36, 7, 6, (1, 83)), (10, 270, 7, 6, (1, 84)), (3, 9, 3, 0, (1, 112)), (3, 15, 3, 1, (1, 113)), (5, 12, 5, 0, (1, 119)), (0, 9, 0, 0, (1, 129)), (2, 9, 2, 0, (1, 139)), (2, 15, 2, 1, (1, 140)), (2, 18, 2, 2, (1, 141)), (2, 21, 2, 3, (1, 142)), (2, 25, 2, 4, (1, 143)), (1, 9, 1, 0, (1, 161)), (1, 15, 1, 1, (1, 162)), (1, 18, 1, 2, (1, 163)), (1, 21, 1, 3, (1, 164)), (1, 24, 1, 4, (1, 165)), (1, 27, 1, 5, (1, 166)), (1, 30, 1, 6, (1, 167)), (1, 33, 1, 7, (1, 168)), (1, 36, 1, 8, (1, 169)), (1, 39, 1, 9, (1, 170)), (1, 42, 1, 10, (1, 171)), (1, 46, 1, 11, (1, 172)), (1, 49, 1, 12, (1, 173)), (9, 9, 9, 0, (1, 207)), (9, 15, 9, 1, (1, 208)), (4, 50, 4, 0, (1, 222)), (4, 12, 4, 1, (1, 223)), (4, 18, 4, 2, (1, 224)), (4, 21, 4, 3, (1, 225)), (4, 25, 4, 4, (1, 226)), (4, 28, 4, 5, (1, 227)), (4, 31, 4, 6, (1, 228)), (4, 34, 4, 7, (1, 229)), (4, 37, 4, 8, (1, 230)), (4, 40, 4, 9, (1, 231)), (4, 44, 4, 10, (1, 232)), (4, 47, 4, 11, (1, 233)), (6, 11, 6, 0, (2, 25)), (6, 15, 6, 1, (2, 26)), (6, 18, 6, 2, (2, 27)), (10, 12, 10, 0, (2, 36)), (10, 16, 10, 1, (2, 37)), (10, 19, 10, 2, (2, 38)), (10, 25, 10, 3, (2, 39)), (10, 34, 10, 4, (2, 40)), (10, 41, 10, 5, (2, 41)), (10, 48, 10, 6, (2, 42)), (10, 55, 10, 7, (2, 43)), (10, 64, 10, 8, (2, 44)), (10, 71, 10, 9, (2, 45)), (10, 75, 10, 10, (2, 46)), (10, 79, 10, 11, (2, 47)), (10, 83, 10, 12, (2, 48)), (11, 7, 11, 0, (5, 189)), (11, 13, 11, 1, (5, 190)), (11, 16, 11, 2, (5, 191)), (11, 350, 11, 3, (5, 192)), (11, 19, 11, 4, (5, 193)), (11, 22, 11, 5, (5, 194)), (11, 25, 11, 6, (5, 195)), (11, 29, 11, 7, (5, 196)), (11, 32, 11, 8, (5, 197)), (11, 35, 11, 9, (5, 198)), (11, 139, 11, 10, (5, 199)), (11, 143, 11, 11, (5, 200)), (11, 38, 11, 12, (5, 201)), (11, 42, 11, 13, (5, 202)), (11, 45, 11, 14, (5, 203)), (11, 48, 11, 15, (5, 204)), (11, 169, 11, 16, (5, 205)), (11, 186, 11, 17, (5, 206)), (11, 180, 11, 18, (5, 207)), (11, 183, 11, 19, (5, 208)), (11, 198, 11, 20, (5, 209)), (11, 192, 11, 21, (5, 210)), (11, 248, 11, 22, (5, 211)), (11, 245, 11, 23, (5, 212)), (11, 212, 11, 24, (5, 213)), (11, 209, 11, 25, (5, 214)), (11, 239, 11, 26, (5, 215)), (11, 51, 11, 27, (5, 216)), (11, 54, 11, 28, (5, 217)), (11, 283, 11, 29, (5, 218)), (11, 286, 11, 30, (5, 219)), (11, 289, 11, 31, (5, 220)), (11, 57, 11, 32, (5, 221)), (11, 60, 11, 33, (5, 222)), (11, 345, 11, 34, (5, 223)), (11, 63, 11, 35, (5, 224))]
set_option maxRecDepth 100000 in
def csT : List (Nat × Nat × Int × Nat × Nat) := [(10, 91, -1000000001, (2, 83)), (10, 102, -1000000003, (2, 88)), (8, 38, -1000000005, (2, 93)), (12, 265, 1431655765, (2, 135)), (12, 266, 858993459, (2, 136)), (12, 267, 252645135, (2, 137)), (10, 128, -1000000005, (2, 138)), (7, 75, -1000000005, (2, 143)), (10, 159, -1000000002, (2, 202)), (1, 52, -1000000005, (3, 24)), (10, 195, -1000000012, (3, 71)), (2, 53, -1000000005, (3, 120)), (4, 64, -1000000005, (4, 35)), (5, 24, -1000000005, (4, 183)), (7, 89, 99999, (4, 213)), (0, 64, -1000000005, (5, 31)), (10, 269, 65535, (5, 62)), (7, 101, 65536, (5, 75)), (6, 30, -1000000001, (5, 88)), (6, 31, -1000000014, (5, 89)), (6, 32, -1000000011, (5, 98)), (6, 37, -1000000013, (5, 103)), (6, 42, -1000000012, (5, 119)), (6, 52, -1000000005, (5, 133)), (11, 87, -1000000001, (6, 68)), (11, 88, -1000000003, (6, 69)), (11, 66, -1000000005, (6, 133)), (11, 134, -1000000002, (6, 163)), (11, 165, -1000000012, (6, 212)), (11, 80, 99999, (7, 131)), (11, 327, 65536, (7, 202)), (11, 333, -1000000014, (7, 211)), (11, 334, -1000000011, (7, 220)), (11, 335, -1000000013, (7, 221))]
set_option maxRecDepth 100000 in
def clT : List (Nat × Nat × Int × Nat × Nat) := [(11, 85, 5, (6, 63)), (11, 78, 3, (6, 67)), (11, 96, 99, (6, 82)), (11, 104, 10, (6, 95)), (11, 112, 999, (6, 120)), (11, 117, 11, (6, 129)), (11, 122, 9999, (6, 138)), (11, 163, 6, (6, 207)), (11, 172, 97, (7, 29)), (11, 174, 122, (7, 30)), (11, 176, 48, (7, 35)), (11, 178, 57, (7, 36)), (11, 267, 2, (7, 92)), (11, 320, 60, (7, 176)), (11, 325, 65535, (7, 197)), (11, 331, -1, (7, 210)), (11, 343, 1000, (7, 229)), (11, 348, 30, (8, 6))]
set_option maxRecDepth 100000 in
def mlT : List (Nat × Nat × Nat × Nat × Nat) := [(13, 13, 105, (2, 76)), (10, 87, 156, (2, 80)), (10, 96, 92, (2, 84)), (10, 103, 98, (2, 89)), (10, 107, 95, (2, 94)), (13, 18, 106, (2, 98)), (10, 111, 93, (2, 102)), (10, 115, 96, (2, 106)), (8, 31, 94, (2, 110)), (8, 34, 95, (2, 114)), (13, 23, 107, (2, 115)), (13, 27, 108, (2, 119)), (10, 119, 67, (2, 123)), (7, 47, 91, (2, 127)), (7, 43, 94, (2, 131)), (10, 123, 265, (2, 132)), (10, 129, 76, (2, 139)), (7, 80, 74, (2, 144)), (10, 133, 94, (2, 150)), (13, 31, 109, (2, 151)), (13, 35, 110, (2, 155)), (13, 39, 111, (2, 159)), (10, 139, 112, (2, 163)), (13, 43, 113, (2, 167)), (10, 146, 64, (2, 171)), (10, 149, 65, (2, 175)), (7, 55, 95, (2, 179)), (13, 47, 114, (2, 180)), (10, 153, 66, (2, 184)), (7, 51, 62, (2, 188)), (13, 51, 115, (2, 192)), (10, 156, 68, (2, 196)), (7, 59, 67, (2, 200)), (7, 63, 265, (2, 201)), (10, 160, 69, (2, 203)), (7, 68, 70, (2, 207)), (7, 71, 71, (2, 211)), (13, 55, 116, (2, 215)), (10, 164, 91, (2, 219)), (10, 167, 8, (2, 220)), (1, 58, 91, (2, 224)), (1, 73, 94, (2, 228)), (1, 76, 9, (2, 229)), (1, 87, 66, (2, 232)), (1, 80, 10, (2, 233)), (1, 91, 11, (2, 237)), (1, 83, 12, (3, 1)), (1, 95, 16, (3, 5)), (1, 105, 13, (3, 12)), (1, 112, 15, (3, 16)), (1, 109, 14, (3, 20)), (10, 171, 5, (3, 25)), (10, 174, 6, (3, 29)), (10, 177, 7, (3, 33)), (13, 60, 117, (3, 37)), (10, 180, 62, (3, 41)), (13, 65, 118, (3, 42)), (13, 69, 119, (3, 46)), (10, 183, 157, (3, 50)), (10, 186, 158, (3, 53)), (13, 74, 120, (3, 62)), (13, 78, 121, (3, 66)), (10, 192, 74, (3, 70)), (13, 82, 122, (3, 72)), (10, 196, 77, (3, 76)), (10, 199, 72, (3, 80)), (13, 86, 123, (3, 84)), (13, 90, 124, (3, 88)), (10, 202, 75, (3, 92)), (10, 205, 78, (3, 96)), (13, 94, 125, (3, 100)), (13, 98, 126, (3, 104)), (13, 102, 127, (3, 108)), (10, 209, 17, (3, 112)), (2, 28, 18, (3, 116)), (2, 54, 81, (3, 121)), (7, 83, 79, (3, 125)), (7, 86, 82, (3, 129)), (2, 41, 94, (3, 133)), (2, 32, 19, (3, 134)), (2, 63, 91, (3, 138)), (2, 47, 20, (3, 139)), (13, 106, 128, (3, 144)), (10, 213, 101, (3, 148)), (10, 216, 102, (3, 152)), (10, 219, 100, (3, 156)), (13, 110, 129, (3, 160)), (10, 222, 103, (3, 164)), (13, 114, 130, (3, 170)), (10, 225, 27, (3, 174)), (4, 54, 29, (3, 178)), (4, 89, 22, (3, 182)), (4, 57, 30, (3, 186)), (4, 92, 100, (3, 190)), (4, 95, 104, (3, 191)), (4, 96, 33, (3, 195)), (4, 100, 31, (3, 198)), (4, 103, 34, (3, 202)), (4, 106, 32, (3, 205)), (4, 60, 35, (3, 210)), (4, 115, 37, (3, 214)), (4, 119, 36, (3, 223)), (4, 65, 39, (4, 36)), (4, 156, 41, (4, 40)), (4, 171, 23, (4, 44)), (4, 174, 45, (4, 48)), (4, 186, 25, (4, 52)), (4, 189, 26, (4, 56)), (4, 159, 40, (4, 60)), (4, 165, 38, (4, 64)), (4, 162, 42, (4, 128)), (4, 69, 43, (4, 132)), (4, 177, 44, (4, 136)), (4, 72, 46, (4, 140)), (4, 180, 47, (4, 144)), (10, 231, 28, (4, 148)), (4, 76, 95, (4, 152)), (4, 82, 21, (4, 153)), (4, 85, 24, (4, 157)), (13, 118, 131, (4, 162)), (13, 122, 132, (4, 166)), (10, 235, 83, (4, 170)), (13, 126, 133, (4, 174)), (10, 238, 48, (4, 178)), (5, 18, 83, (4, 182)), (5, 29, 49, (4, 184)), (5, 42, 22, (4, 188)), (5, 45, 94, (4, 189)), (5, 50, 23, (4, 190)), (5, 54, 26, (4, 191)), (5, 58, 51, (4, 192)), (5, 62, 50, (4, 195)), (13, 130, 134, (4, 200)), (10, 242, 52, (4, 204)), (5, 73, 48, (4, 208)), (10, 246, 84, (4, 209)), (13, 134, 135, (4, 215)), (13, 138, 136, (4, 219)), (10, 249, 138, (4, 223)), (10, 257, 85, (4, 228)), (7, 95, 98, (4, 232)), (13, 142, 137, (4, 233)), (13, 146, 139, (4, 237)), (13, 150, 140, (5, 1)), (13, 154, 141, (5, 5)), (10, 263, 86, (5, 9)), (7, 98, 87, (5, 13)), (13, 158, 142, (5, 17)), (10, 266, 0, (5, 21)), (0, 21, 91, (5, 25)), (0, 27, 1, (5, 26)), (0, 37, 94, (5, 30)), (0, 50, 62, (5, 32)), (0, 65, 48, (5, 33)), (0, 71, 84, (5, 34)), (0, 74, 97, (5, 35)), (0, 77, 2, (5, 39)), (0, 46, 95, (5, 44)), (0, 34, 3, (5, 45)), (0, 83, 81, (5, 49)), (0, 58, 86, (5, 51)), (0, 61, 4, (5, 52)), (0, 89, 96, (5, 56)), (0, 93, 70, (5, 57)), (13, 162, 143, (5, 58)), (13, 166, 144, (5, 63)), (10, 273, 63, (5, 67)), (10, 276, 88, (5, 71)), (13, 170, 145, (5, 76)), (10, 279, 53, (5, 80)), (6, 22, 57, (5, 84)), (13, 174, 146, (5, 90)), (10, 282, 54, (5, 94)), (6, 33, 58, (5, 99)), (6, 38, 60, (5, 104)), (13, 178, 147, (5, 107)), (13, 182, 148, (5, 111)), (10, 286, 55, (5, 115)), (6, 43, 59, (5, 120)), (13, 187, 149, (5, 125)), (10, 290, 56, (5, 129)), (13, 191, 150, (5, 134)), (13, 195, 151, (5, 138)), (10, 293, 61, (5, 142)), (7, 39, 99, (5, 146)), (10, 296, 89, (5, 151)), (10, 299, 152, (5, 155)), (10, 302, 90, (5, 159)), (13, 199, 153, (5, 163)), (13, 203, 154, (5, 167)), (13, 207, 155, (5, 171)), (10, 305, 73, (5, 175)), (10, 308, 80, (5, 179)), (13, 17, 175, (6, 59)), (11, 67, 159, (6, 64)), (11, 89, 163, (6, 70)), (13, 22, 176, (6, 74)), (11, 92, 168, (6, 78)), (11, 98, 162, (6, 83)), (13, 26, 177, (6, 87)), (13, 30, 180, (6, 91)), (11, 106, 179, (6, 96)), (11, 101, 173, (6, 100)), (11, 75, 165, (6, 104)), (11, 109, 178, (6, 108)), (11, 71, 164, (6, 112)), (13, 34, 181, (6, 116)), (13, 38, 182, (6, 121)), (11, 114, 169, (6, 125)), (11, 119, 160, (6, 130)), (13, 42, 183, (6, 134)), (13, 46, 185, (6, 139)), (13, 50, 187, (6, 143)), (11, 127, 186, (6, 147)), (11, 124, 172, (6, 151)), (13, 54, 189, (6, 155)), (11, 131, 184, (6, 159)), (11, 135, 188, (6, 164)), (13, 59, 193, (6, 168)), (11, 153, 192, (6, 172)), (11, 149, 191, (6, 176)), (11, 146, 190, (6, 180)), (13, 64, 194, (6, 184)), (13, 68, 195, (6, 188)), (13, 73, 197, (6, 192)), (11, 156, 196, (6, 196)), (13, 77, 198, (6, 199)), (11, 160, 170, (6, 203)), (13, 81, 199, (6, 208)), (13, 85, 200, (6, 213)), (13, 89, 201, (6, 217)), (13, 93, 202, (6, 221)), (13, 97, 203, (6, 225)), (13, 101, 204, (6, 229)), (13, 105, 206, (6, 233)), (11, 166, 205, (6, 237)), (13, 109, 207, (7, 1)), (13, 113, 208, (7, 5)), (13, 117, 225, (7, 9)), (11, 261, 224, (7, 13)), (11, 254, 166, (7, 17)), (11, 221, 211, (7, 21)), (11, 189, 209, (7, 25)), (11, 195, 210, (7, 31)), (11, 257, 215, (7, 37)), (11, 201, 213, (7, 41)), (11, 205, 214, (7, 45)), (11, 251, 218, (7, 49)), (11, 215, 219, (7, 53)), (11, 227, 220, (7, 57)), (11, 230, 221, (7, 61)), (11, 233, 222, (7, 65)), (11, 236, 223, (7, 69)), (11, 224, 217, (7, 73)), (11, 242, 216, (7, 77)), (11, 218, 212, (7, 80)), (13, 121, 226, (7, 84)), (11, 264, 171, (7, 88)), (13, 125, 228, (7, 93)), (11, 269, 227, (7, 97)), (13, 129, 232, (7, 101)), (11, 279, 231, (7, 105)), (11, 276, 230, (7, 109)), (11, 272, 229, (7, 113)), (11, 81, 161, (7, 116)), (13, 133, 234, (7, 119)), (11, 292, 233, (7, 123)), (11, 296, 174, (7, 127)), (13, 137, 235, (7, 132)), (13, 141, 237, (7, 136)), (11, 302, 236, (7, 140)), (11, 299, 167, (7, 144)), (13, 145, 238, (7, 148)), (13, 149, 240, (7, 152)), (11, 305, 239, (7, 156)), (13, 153, 241, (7, 160)), (13, 157, 243, (7, 164)), (11, 308, 242, (7, 168)), (13, 161, 248, (7, 172)), (11, 322, 247, (7, 177)), (11, 311, 244, (7, 181)), (11, 314, 245, (7, 185)), (11, 317, 246, (7, 189)), (13, 165, 249, (7, 193)), (13, 169, 250, (7, 198)), (13, 173, 253, (7, 203)), (11, 328, 251, (7, 207)), (13, 177, 255, (7, 212)), (11, 336, 254, (7, 216)), (11, 339, 252, (7, 222)), (13, 181, 256, (7, 225)), (13, 186, 257, (7, 230)), (13, 190, 258, (7, 234)), (13, 194, 259, (7, 238)), (13, 198, 261, (8, 2)), (11, 354, 260, (8, 7)), (13, 202, 262, (8, 11)), (13, 206, 263, (8, 15)), (13, 210, 264, (8, 19))]
set_option maxRecDepth 100000 in
def mjT : List (Nat × Nat × Nat × Nat × Nat) := [(8, 15, 1001, (1, 41)), (1, 64, 1002, (2, 225)), (1, 99, 1003, (3, 9)), (2, 67, 1002, (3, 143)), (9, 19, 1002, (3, 168)), (9, 25, 1001, (3, 169)), (4, 109, 1002, (3, 209)), (4, 123, 900, (3, 227)), (4, 128, 901, (3, 237)), (4, 168, 902, (4, 73)), (4, 183, 1001, (4, 147)), (5, 33, 1002, (4, 198)), (5, 39, 1001, (4, 199)), (7, 90, 1002, (4, 214)), (10, 252, 1002, (4, 227)), (0, 80, 1002, (5, 43)), (0, 41, 1001, (5, 50)), (6, 46, 1003, (5, 124)), (8, 39, 1003, (5, 150))]
def stT : List (Nat × Nat × Nat × Nat × Nat) := [(10, 311, 1201, (3, 56)), (10, 314, 1202, (3, 58)), (10, 317, 1203, (3, 60))]
def srT : List (Nat × Nat × Nat) := [(4, 132, 1000), (4, 134, 1001), (4, 136, 1002), (4, 138, 1003), (4, 140, 1004), (4, 142, 1005), (4, 144, 1006), (4, 146, 1007), (4, 148, 1008), (4, 150, 1009), (4, 152, 1010), (4, 154, 1011)]
set_option maxRecDepth 100000 in
def cdk0 : Cd := [some (.aload_n 0, 1, 0, 0, 0, 0, []), some (.invokespecial 3, 3, 99, 0, 0, 0, [(0, 8)]), none, none, some (.aload_n 0, 1, 0, 0, 0, 0, []), some (.aload_n 1, 1, 0, 0, 0, 0, []), 
  some (.putfield 9, 3, 0, 0, 0, 0, [(0, 34)]), none, none, some (.return_, 1, 0, 0, 0, 0, [])]
set_option maxRecDepth 100000 in
def cdk1 : Cd := [some (.aload_n 0, 1, 0, 0, 0, 0, []), some (.invokespecial 3, 3, 99, 0, 0, 0, [(0, 10)]), none, none, some (.aload_n 0, 1, 0, 0, 0, 0, []), some (.bipush 10, 2, 0, 0, 10, 0, []), none, 
  some (.newarray .int, 2, 0, 0, 0, 0, []), none, some (.putfield 9, 3, 1, 0, 0, 0, [(0, 40)]), none, none, some (.aload_n 0, 1, 0, 0, 0, 0, []), some (.bipush 10, 2, 0, 0, 10, 0, []), none, 
  some (.newarray .int, 2, 0, 0, 0, 0, []), none, some (.putfield 15, 3, 1, 1, 1, 0, [(0, 41)]), none, none, some (.aload_n 0, 1, 0, 0, 0, 0, []), some (.bipush 10, 2, 0, 0, 10, 0, []), none, 
  some (.newarray .int, 2, 0, 0, 0, 0, []), none, some (.putfield 18, 3, 1, 2, 2, 0, [(0, 42)]), none, none, some (.aload_n 0, 1, 0, 0, 0, 0, []), some (.iconst 3, 1, 0, 0, 3, 0, []), 
  some (.newarray .int, 2, 0, 0, 0, 0, []), none, some (.putfield 21, 3, 1, 3, 3, 0, [(0, 43)]), none, none, some (.aload_n 0, 1, 0, 0, 0, 0, []), some (.iconst 3, 1, 0, 0, 3, 0, []), 
  some (.newarray .int, 2, 0, 0, 0, 0, []), none, some (.putfield 24, 3, 1, 4, 4, 0, [(0, 44)]), none, none, some (.aload_n 0, 1, 0, 0, 0, 0, []), some (.bipush 10, 2, 0, 0, 10, 0, []), none, 
  some (.newarray .int, 2, 0, 0, 0, 0, []), none, some (.putfield 27, 3, 1, 5, 5, 0, [(0, 45)]), none, none, some (.aload_n 0, 1, 0, 0, 0, 0, []), some (.bipush 10, 2, 0, 0, 10, 0, []), none, 
  some (.newarray .int, 2, 0, 0, 0, 0, []), none, some (.putfield 30, 3, 1, 6, 6, 0, [(0, 46)]), none, none, some (.aload_n 0, 1, 0, 0, 0, 0, []), some (.bipush 11, 2, 0, 0, 11, 0, []), none, 
  some (.newarray .int, 2, 0, 0, 0, 0, []), none, some (.putfield 33, 3, 1, 7, 7, 0, [(0, 47)]), none, none, some (.aload_n 0, 1, 0, 0, 0, 0, []), some (.bipush 121, 2, 0, 0, 121, 0, []), none, 
  some (.newarray .int, 2, 0, 0, 0, 0, []), none, some (.putfield 36, 3, 1, 8, 8, 0, [(0, 48)]), none, none, some (.aload_n 0, 1, 0, 0, 0, 0, []), some (.bipush 11, 2, 0, 0, 11, 0, []), none, 
  some (.newarray .int, 2, 0, 0, 0, 0, []), none, some (.putfield 39, 3, 1, 9, 9, 0, [(0, 49)]), none, none, some (.aload_n 0, 1, 0, 0, 0, 0, []), some (.iconst 0, 1, 0, 0, 0, 0, []), 
  some (.putfield 42, 3, 1, 10, 10, 0, [(0, 50)]), none, none, some (.aload_n 0, 1, 0, 0, 0, 0, []), some (.iconst 0, 1, 0, 0, 0, 0, []), some (.putfield 46, 3, 1, 11, 11, 0, [(0, 51)]), none, none, 
  some (.aload_n 0, 1, 0, 0, 0, 0, []), some (.iconst 0, 1, 0, 0, 0, 0, []), some (.putfield 49, 3, 1, 12, 12, 0, [(0, 52)]), none, none, some (.return_, 1, 0, 0, 0, 0, [])]
set_option maxRecDepth 100000 in
def cdk2 : Cd := [some (.aload_n 0, 1, 0, 0, 0, 0, []), some (.invokespecial 3, 3, 99, 0, 0, 0, [(0, 9)]), none, none, some (.aload_n 0, 1, 0, 0, 0, 0, []), some (.bipush 30, 2, 0, 0, 30, 0, []), none, 
  some (.newarray .int, 2, 0, 0, 0, 0, []), none, some (.putfield 9, 3, 2, 0, 0, 0, [(0, 35)]), none, none, some (.aload_n 0, 1, 0, 0, 0, 0, []), some (.bipush 10, 2, 0, 0, 10, 0, []), none, 
  some (.newarray .int, 2, 0, 0, 0, 0, []), none, some (.putfield 15, 3, 2, 1, 1, 0, [(0, 36)]), none, none, some (.aload_n 0, 1, 0, 0, 0, 0, []), some (.bipush 10, 2, 0, 0, 10, 0, []), none, 
  some (.newarray .int, 2, 0, 0, 0, 0, []), none, some (.putfield 18, 3, 2, 2, 2, 0, [(0, 37)]), none, none, some (.aload_n 0, 1, 0, 0, 0, 0, []), some (.iconst 0, 1, 0, 0, 0, 0, []), 
  some (.putfield 21, 3, 2, 3, 3, 0, [(0, 38)]), none, none, some (.aload_n 0, 1, 0, 0, 0, 0, []), some (.iconst 0, 1, 0, 0, 0, 0, []), some (.putfield 25, 3, 2, 4, 4, 0, [(0, 39)]), none, none, 
  some (.return_, 1, 0, 0, 0, 0, [])]
set_option maxRecDepth 100000 in
def cdk3 : Cd := [some (.aload_n 0, 1, 0, 0, 0, 0, []), some (.invokespecial 3, 3, 99, 0, 0, 0, [(0, 6)]), none, none, some (.aload_n 0, 1, 0, 0, 0, 0, []), some (.bipush 96, 2, 0, 0, 96, 0, []), none, 
  some (.newarray .int, 2, 0, 0, 0, 0, []), none, some (.putfield 9, 3, 3, 0, 0, 0, [(0, 31)]), none, none, some (.aload_n 0, 1, 0, 0, 0, 0, []), some (.iconst 0, 1, 0, 0, 0, 0, []), 
  some (.putfield 15, 3, 3, 1, 1, 0, [(0, 32)]), none, none, some (.return_, 1, 0, 0, 0, 0, [])]
set_option maxRecDepth 100000 in
def cdk4 : Cd := [some (.aload_n 0, 1, 0, 0, 0, 0, []), some (.invokespecial 3, 3, 99, 0, 0, 0, [(0, 13)]), none, none, some (.aload_n 0, 1, 0, 0, 0, 0, []), some (.new 9, 3, 3, 0, 0, 0, [(0, 10)]), none, none, 
  some (.dup, 1, 0, 0, 0, 0, []), some (.invokespecial 11, 3, 3, 1, 0, 0, [(0, 6)]), none, none, some (.putfield 12, 3, 4, 1, 1, 0, [(0, 56)]), none, none, some (.aload_n 0, 1, 0, 0, 0, 0, []), 
  some (.new 9, 3, 3, 0, 0, 0, [(0, 10)]), none, none, some (.dup, 1, 0, 0, 0, 0, []), some (.invokespecial 11, 3, 3, 1, 0, 0, [(0, 6)]), none, none, some (.putfield 18, 3, 4, 2, 2, 0, [(0, 57)]), none, none, 
  some (.aload_n 0, 1, 0, 0, 0, 0, []), some (.iconst 0, 1, 0, 0, 0, 0, []), some (.putfield 21, 3, 4, 3, 3, 0, [(0, 58)]), none, none, some (.aload_n 0, 1, 0, 0, 0, 0, []), some (.iconst 0, 1, 0, 0, 0, 0, []), 
  some (.putfield 25, 3, 4, 4, 4, 0, [(0, 59)]), none, none, some (.aload_n 0, 1, 0, 0, 0, 0, []), some (.iconst 0, 1, 0, 0, 0, 0, []), some (.putfield 28, 3, 4, 5, 5, 0, [(0, 60)]), none, none, 
  some (.aload_n 0, 1, 0, 0, 0, 0, []), some (.iconst 0, 1, 0, 0, 0, 0, []), some (.putfield 31, 3, 4, 6, 6, 0, [(0, 61)]), none, none, some (.aload_n 0, 1, 0, 0, 0, 0, []), some (.iconst 0, 1, 0, 0, 0, 0, []), 
  some (.putfield 34, 3, 4, 7, 7, 0, [(0, 62)]), none, none, some (.aload_n 0, 1, 0, 0, 0, 0, []), some (.iconst 0, 1, 0, 0, 0, 0, []), some (.putfield 37, 3, 4, 8, 8, 0, [(0, 63)]), none, none, 
  some (.aload_n 0, 1, 0, 0, 0, 0, []), some (.iconst 1, 1, 0, 0, 1, 0, []), some (.putfield 40, 3, 4, 9, 9, 0, [(0, 64)]), none, none, some (.aload_n 0, 1, 0, 0, 0, 0, []), some (.iconst 0, 1, 0, 0, 0, 0, []), 
  some (.putfield 44, 3, 4, 10, 10, 0, [(0, 65)]), none, none, some (.aload_n 0, 1, 0, 0, 0, 0, []), some (.iconst 0, 1, 0, 0, 0, 0, []), some (.putfield 47, 3, 4, 11, 11, 0, [(0, 66)]), none, none, 
  some (.aload_n 0, 1, 0, 0, 0, 0, []), some (.aload_n 1, 1, 0, 0, 0, 0, []), some (.putfield 50, 3, 4, 0, 0, 0, [(0, 55)]), none, none, some (.return_, 1, 0, 0, 0, 0, [])]
set_option maxRecDepth 100000 in
def cdk5 : Cd := [some (.aload_n 0, 1, 0, 0, 0, 0, []), some (.invokespecial 3, 3, 99, 0, 0, 0, [(0, 5)]), none, none, some (.aload_n 0, 1, 0, 0, 0, 0, []), some (.new 9, 3, 3, 0, 0, 0, [(0, 4)]), none, none, 
  some (.dup, 1, 0, 0, 0, 0, []), some (.invokespecial 11, 3, 3, 1, 0, 0, [(0, 2)]), none, none, some (.putfield 12, 3, 5, 0, 0, 0, [(0, 33)]), none, none, some (.return_, 1, 0, 0, 0, 0, [])]
set_option maxRecDepth 100000 in
def cdk6 : Cd := [some (.aload_n 0, 1, 0, 0, 0, 0, []), some (.invokespecial 3, 3, 99, 0, 0, 0, [(0, 14)]), none, none, some (.aload_n 0, 1, 0, 0, 0, 0, []), some (.iconst 4, 1, 0, 0, 4, 0, []), some (.newarray .int, 2, 0, 0, 0, 0, []), 
  none, some (.dup, 1, 0, 0, 0, 0, []), some (.iconst 0, 1, 0, 0, 0, 0, []), some (.iconst (-1), 1, 0, 0, -1, 0, []), some (.iastore, 1, 0, 0, 0, 0, []), some (.dup, 1, 0, 0, 0, 0, []), some (.iconst 1, 1, 0, 0, 1, 0, []), 
  some (.iconst (-1), 1, 0, 0, -1, 0, []), some (.iastore, 1, 0, 0, 0, 0, []), some (.dup, 1, 0, 0, 0, 0, []), some (.iconst 2, 1, 0, 0, 2, 0, []), some (.iconst (-1), 1, 0, 0, -1, 0, []), 
  some (.iastore, 1, 0, 0, 0, 0, []), some (.dup, 1, 0, 0, 0, 0, []), some (.iconst 3, 1, 0, 0, 3, 0, []), some (.iconst (-1), 1, 0, 0, -1, 0, []), some (.iastore, 1, 0, 0, 0, 0, []), 
  some (.putfield 11, 3, 6, 0, 0, 0, [(0, 67)]), none, none, some (.aload_n 0, 1, 0, 0, 0, 0, []), some (.iconst 4, 1, 0, 0, 4, 0, []), some (.newarray .int, 2, 0, 0, 0, 0, []), none, 
  some (.putfield 15, 3, 6, 1, 1, 0, [(0, 68)]), none, none, some (.aload_n 0, 1, 0, 0, 0, 0, []), some (.bipush 96, 2, 0, 0, 96, 0, []), none, some (.newarray .long, 2, 1, 0, 0, 0, []), none, 
  some (.putfield 18, 3, 6, 2, 2, 0, [(0, 69)]), none, none, some (.return_, 1, 0, 0, 0, 0, [])]
set_option maxRecDepth 100000 in
def cdk7 : Cd := [some (.aload_n 0, 1, 0, 0, 0, 0, []), some (.invokespecial 3, 3, 99, 0, 0, 0, [(0, 2)]), none, none, some (.aload_n 0, 1, 0, 0, 0, 0, []), some (.new 9, 3, 8, 0, 0, 0, [(0, 2)]), none, none, 
  some (.dup, 1, 0, 0, 0, 0, []), some (.iconst 3, 1, 0, 0, 3, 0, []), some (.bipush 8, 2, 0, 0, 8, 0, []), none, some (.invokespecial 11, 3, 8, 0, 0, 0, [(0, 3)]), none, none, some (.putfield 14, 3, 7, 0, 0, 0, [(0, 4)]), 
  none, none, some (.aload_n 0, 1, 0, 0, 0, 0, []), some (.new 9, 3, 8, 0, 0, 0, [(0, 2)]), none, none, some (.dup, 1, 0, 0, 0, 0, []), some (.bipush 10, 2, 0, 0, 10, 0, []), none, some (.bipush 14, 2, 0, 0, 14, 0, []), 
  none, some (.invokespecial 11, 3, 8, 0, 0, 0, [(0, 3)]), none, none, some (.putfield 20, 3, 7, 1, 1, 0, [(0, 9)]), none, none, some (.aload_n 0, 1, 0, 0, 0, 0, []), some (.new 9, 3, 8, 0, 0, 0, [(0, 2)]), none, none, 
  some (.dup, 1, 0, 0, 0, 0, []), some (.bipush 30, 2, 0, 0, 30, 0, []), none, some (.bipush 8, 2, 0, 0, 8, 0, []), none, some (.invokespecial 11, 3, 8, 0, 0, 0, [(0, 3)]), none, none, 
  some (.putfield 23, 3, 7, 2, 2, 0, [(0, 15)]), none, none, some (.aload_n 0, 1, 0, 0, 0, 0, []), some (.new 9, 3, 8, 0, 0, 0, [(0, 2)]), none, none, some (.dup, 1, 0, 0, 0, 0, []), some (.bipush 12, 2, 0, 0, 12, 0, []), 
  none, some (.bipush 100, 2, 0, 0, 100, 0, []), none, some (.invokespecial 11, 3, 8, 0, 0, 0, [(0, 3)]), none, none, some (.putfield 26, 3, 7, 3, 3, 0, [(0, 19)]), none, none, some (.aload_n 0, 1, 0, 0, 0, 0, []), 
  some (.new 9, 3, 8, 0, 0, 0, [(0, 2)]), none, none, some (.dup, 1, 0, 0, 0, 0, []), some (.bipush 40, 2, 0, 0, 40, 0, []), none, some (.iconst 4, 1, 0, 0, 4, 0, []), some (.invokespecial 11, 3, 8, 0, 0, 0, [(0, 3)]), 
  none, none, some (.putfield 29, 3, 7, 4, 4, 0, [(0, 22)]), none, none, some (.aload_n 0, 1, 0, 0, 0, 0, []), some (.iconst 0, 1, 0, 0, 0, 0, []), some (.putfield 32, 3, 7, 5, 5, 0, [(0, 24)]), none, none, 
  some (.aload_n 0, 1, 0, 0, 0, 0, []), some (.iconst 0, 1, 0, 0, 0, 0, []), some (.putfield 36, 3, 7, 6, 6, 0, [(0, 29)]), none, none, some (.return_, 1, 0, 0, 0, 0, [])]
set_option maxRecDepth 100000 in
def cdk8 : Cd := [some (.aload_n 0, 1, 0, 0, 0, 0, []), some (.invokespecial 3, 3, 99, 0, 0, 0, [(0, 4)]), none, none, some (.aload_n 0, 1, 0, 0, 0, 0, []), some (.iconst 0, 1, 0, 0, 0, 0, []), some (.putfield 9, 3, 8, 2, 2, 0, [(0, 2)]), 
  none, none, some (.aload_n 0, 1, 0, 0, 0, 0, []), some (.iconst 0, 1, 0, 0, 0, 0, []), some (.iload_n 1, 1, 0, 0, 0, 0, []), some (.invokestatic 15, 3, 1001, 2, 0, 0, [(0, 0)]), none, none, 
  some (.putfield 21, 3, 8, 3, 3, 0, [(0, 3)]), none, none, some (.aload_n 0, 1, 0, 0, 0, 0, []), some (.iconst 0, 1, 0, 0, 0, 0, []), some (.iload_n 2, 1, 0, 0, 0, 0, []), 
  some (.invokestatic 15, 3, 1001, 2, 0, 0, [(0, 0)]), none, none, some (.putfield 24, 3, 8, 0, 0, 0, [(0, 0)]), none, none, some (.aload_n 0, 1, 0, 0, 0, 0, []), some (.aload_n 0, 1, 0, 0, 0, 0, []), 
  some (.getfield 21, 3, 8, 3, 3, 0, [(0, 3)]), none, none, some (.aload_n 0, 1, 0, 0, 0, 0, []), some (.getfield 24, 3, 8, 0, 0, 0, [(0, 0)]), none, none, some (.imul, 1, 0, 0, 0, 0, []), 
  some (.newarray .int, 2, 0, 0, 0, 0, []), none, some (.putfield 27, 3, 8, 1, 1, 0, [(0, 1)]), none, none, some (.return_, 1, 0, 0, 0, 0, [])]
set_option maxRecDepth 100000 in
def cdk9 : Cd := [some (.aload_n 0, 1, 0, 0, 0, 0, []), some (.invokespecial 3, 3, 99, 0, 0, 0, [(0, 11)]), none, none, some (.aload_n 0, 1, 0, 0, 0, 0, []), some (.bipush 96, 2, 0, 0, 96, 0, []), none, 
  some (.newarray .int, 2, 0, 0, 0, 0, []), none, some (.putfield 9, 3, 9, 0, 0, 0, [(0, 53)]), none, none, some (.aload_n 0, 1, 0, 0, 0, 0, []), some (.iconst 0, 1, 0, 0, 0, 0, []), 
  some (.putfield 15, 3, 9, 1, 1, 0, [(0, 54)]), none, none, some (.return_, 1, 0, 0, 0, 0, [])]
set_option maxRecDepth 100000 in
def cdk10 : Cd := [some (.aload_n 0, 1, 0, 0, 0, 0, []), some (.invokespecial 3, 3, 99, 0, 0, 0, [(0, 1)]), none, none, some (.aload_n 0, 1, 0, 0, 0, 0, []), some (.new 9, 3, 7, 0, 0, 0, [(0, 1)]), none, none, 
  some (.dup, 1, 0, 0, 0, 0, []), some (.invokespecial 11, 3, 7, 1, 0, 0, [(0, 0)]), none, none, some (.putfield 12, 3, 10, 0, 0, 0, [(0, 70)]), none, none, some (.aload_n 0, 1, 0, 0, 0, 0, []), 
  some (.new 9, 3, 7, 0, 0, 0, [(0, 1)]), none, none, some (.dup, 1, 0, 0, 0, 0, []), some (.invokespecial 11, 3, 7, 1, 0, 0, [(0, 0)]), none, none, some (.putfield 16, 3, 10, 1, 1, 0, [(0, 71)]), none, none, 
  some (.aload_n 0, 1, 0, 0, 0, 0, []), some (.new 9, 3, 7, 0, 0, 0, [(0, 1)]), none, none, some (.dup, 1, 0, 0, 0, 0, []), some (.invokespecial 11, 3, 7, 1, 0, 0, [(0, 0)]), none, none, 
  some (.putfield 19, 3, 10, 2, 2, 0, [(0, 72)]), none, none, some (.aload_n 0, 1, 0, 0, 0, 0, []), some (.new 22, 3, 5, 0, 0, 0, [(0, 3)]), none, none, some (.dup, 1, 0, 0, 0, 0, []), 
  some (.invokespecial 24, 3, 5, 1, 0, 0, [(0, 1)]), none, none, some (.putfield 25, 3, 10, 3, 3, 0, [(0, 73)]), none, none, some (.aload_n 0, 1, 0, 0, 0, 0, []), some (.new 29, 3, 0, 0, 0, 0, [(0, 5)]), none, none, 
  some (.dup, 1, 0, 0, 0, 0, []), some (.aload_n 0, 1, 0, 0, 0, 0, []), some (.getfield 25, 3, 10, 3, 3, 0, [(0, 73)]), none, none, some (.invokespecial 31, 3, 0, 0, 0, 0, [(0, 7)]), none, none, 
  some (.putfield 34, 3, 10, 4, 4, 0, [(0, 74)]), none, none, some (.aload_n 0, 1, 0, 0, 0, 0, []), some (.new 38, 3, 2, 0, 0, 0, [(0, 6)]), none, none, some (.dup, 1, 0, 0, 0, 0, []), 
  some (.invokespecial 40, 3, 2, 1, 0, 0, [(0, 3)]), none, none, some (.putfield 41, 3, 10, 5, 5, 0, [(0, 75)]), none, none, some (.aload_n 0, 1, 0, 0, 0, 0, []), some (.new 45, 3, 1, 0, 0, 0, [(0, 7)]), none, none, 
  some (.dup, 1, 0, 0, 0, 0, []), some (.invokespecial 47, 3, 1, 1, 0, 0, [(0, 4)]), none, none, some (.putfield 48, 3, 10, 6, 6, 0, [(0, 76)]), none, none, some (.aload_n 0, 1, 0, 0, 0, 0, []), 
  some (.new 52, 3, 9, 0, 0, 0, [(0, 8)]), none, none, some (.dup, 1, 0, 0, 0, 0, []), some (.invokespecial 54, 3, 9, 1, 0, 0, [(0, 5)]), none, none, some (.putfield 55, 3, 10, 7, 7, 0, [(0, 77)]), none, none, 
  some (.aload_n 0, 1, 0, 0, 0, 0, []), some (.new 59, 3, 4, 0, 0, 0, [(0, 9)]), none, none, some (.dup, 1, 0, 0, 0, 0, []), some (.aload_n 0, 1, 0, 0, 0, 0, []), some (.getfield 55, 3, 10, 7, 7, 0, [(0, 77)]), none, none, 
  some (.invokespecial 61, 3, 4, 0, 0, 0, [(0, 12)]), none, none, some (.putfield 64, 3, 10, 8, 8, 0, [(0, 78)]), none, none, some (.aload_n 0, 1, 0, 0, 0, 0, []), some (.new 68, 3, 6, 0, 0, 0, [(0, 11)]), none, none, 
  some (.dup, 1, 0, 0, 0, 0, []), some (.invokespecial 70, 3, 6, 1, 0, 0, [(0, 7)]), none, none, some (.putfield 71, 3, 10, 9, 9, 0, [(0, 79)]), none, none, some (.aload_n 0, 1, 0, 0, 0, 0, []), 
  some (.bipush 60, 2, 0, 0, 60, 0, []), none, some (.newarray .int, 2, 0, 0, 0, 0, []), none, some (.putfield 75, 3, 10, 10, 10, 0, [(0, 80)]), none, none, some (.aload_n 0, 1, 0, 0, 0, 0, []), 
  some (.iconst 0, 1, 0, 0, 0, 0, []), some (.putfield 79, 3, 10, 11, 11, 0, [(0, 81)]), none, none, some (.aload_n 0, 1, 0, 0, 0, 0, []), some (.iconst 0, 1, 0, 0, 0, 0, []), 
  some (.putfield 83, 3, 10, 12, 12, 0, [(0, 82)]), none, none, some (.return_, 1, 0, 0, 0, 0, [])]
set_option maxRecDepth 100000 in
def cdk11 : Cd := [some (.aload_n 0, 1, 0, 0, 0, 0, []), some (.invokespecial 1, 3, 99, 0, 0, 0, [(0, 16)]), none, none, some (.aload_n 0, 1, 0, 0, 0, 0, []), some (.sipush 3400, 3, 0, 0, 3400, 0, []), none, none, 
  some (.newarray .int, 2, 0, 0, 0, 0, []), none, some (.putfield 7, 3, 11, 0, 0, 0, [(0, 83)]), none, none, some (.aload_n 0, 1, 0, 0, 0, 0, []), some (.sipush 3400, 3, 0, 0, 3400, 0, []), none, none, 
  some (.newarray .int, 2, 0, 0, 0, 0, []), none, some (.putfield 13, 3, 11, 1, 1, 0, [(0, 84)]), none, none, some (.aload_n 0, 1, 0, 0, 0, 0, []), some (.sipush 3400, 3, 0, 0, 3400, 0, []), none, none, 
  some (.newarray .int, 2, 0, 0, 0, 0, []), none, some (.putfield 16, 3, 11, 2, 2, 0, [(0, 85)]), none, none, some (.aload_n 0, 1, 0, 0, 0, 0, []), some (.iconst 4, 1, 0, 0, 4, 0, []), 
  some (.newarray .int, 2, 0, 0, 0, 0, []), none, some (.putfield 19, 3, 11, 4, 4, 0, [(0, 87)]), none, none, some (.aload_n 0, 1, 0, 0, 0, 0, []), some (.iconst 4, 1, 0, 0, 4, 0, []), 
  some (.newarray .int, 2, 0, 0, 0, 0, []), none, some (.putfield 22, 3, 11, 5, 5, 0, [(0, 88)]), none, none, some (.aload_n 0, 1, 0, 0, 0, 0, []), some (.bipush 96, 2, 0, 0, 96, 0, []), none, 
  some (.newarray .long, 2, 1, 0, 0, 0, []), none, some (.putfield 25, 3, 11, 6, 6, 0, [(0, 89)]), none, none, some (.aload_n 0, 1, 0, 0, 0, 0, []), some (.bipush 10, 2, 0, 0, 10, 0, []), none, 
  some (.newarray .int, 2, 0, 0, 0, 0, []), none, some (.putfield 29, 3, 11, 7, 7, 0, [(0, 90)]), none, none, some (.aload_n 0, 1, 0, 0, 0, 0, []), some (.bipush 10, 2, 0, 0, 10, 0, []), none, 
  some (.newarray .int, 2, 0, 0, 0, 0, []), none, some (.putfield 32, 3, 11, 8, 8, 0, [(0, 91)]), none, none, some (.aload_n 0, 1, 0, 0, 0, 0, []), some (.iconst 3, 1, 0, 0, 3, 0, []), 
  some (.newarray .int, 2, 0, 0, 0, 0, []), none, some (.putfield 35, 3, 11, 9, 9, 0, [(0, 92)]), none, none, some (.aload_n 0, 1, 0, 0, 0, 0, []), some (.bipush 30, 2, 0, 0, 30, 0, []), none, 
  some (.newarray .boolean, 2, 2, 0, 0, 0, []), none, some (.putfield 38, 3, 11, 12, 12, 0, [(0, 95)]), none, none, some (.aload_n 0, 1, 0, 0, 0, 0, []), some (.bipush 10, 2, 0, 0, 10, 0, []), none, 
  some (.newarray .int, 2, 0, 0, 0, 0, []), none, some (.putfield 42, 3, 11, 13, 13, 0, [(0, 96)]), none, none, some (.aload_n 0, 1, 0, 0, 0, 0, []), some (.bipush 10, 2, 0, 0, 10, 0, []), none, 
  some (.newarray .int, 2, 0, 0, 0, 0, []), none, some (.putfield 45, 3, 11, 14, 14, 0, [(0, 97)]), none, none, some (.aload_n 0, 1, 0, 0, 0, 0, []), some (.bipush 96, 2, 0, 0, 96, 0, []), none, 
  some (.newarray .int, 2, 0, 0, 0, 0, []), none, some (.putfield 48, 3, 11, 15, 15, 0, [(0, 98)]), none, none, some (.aload_n 0, 1, 0, 0, 0, 0, []), some (.sipush 128, 3, 0, 0, 128, 0, []), none, none, 
  some (.newarray .int, 2, 0, 0, 0, 0, []), none, some (.putfield 51, 3, 11, 27, 27, 0, [(0, 110)]), none, none, some (.aload_n 0, 1, 0, 0, 0, 0, []), some (.bipush 100, 2, 0, 0, 100, 0, []), none, 
  some (.newarray .int, 2, 0, 0, 0, 0, []), none, some (.putfield 54, 3, 11, 28, 28, 0, [(0, 111)]), none, none, some (.aload_n 0, 1, 0, 0, 0, 0, []), some (.bipush 24, 2, 0, 0, 24, 0, []), none, 
  some (.newarray .long, 2, 1, 0, 0, 0, []), none, some (.putfield 57, 3, 11, 32, 32, 0, [(0, 115)]), none, none, some (.aload_n 0, 1, 0, 0, 0, 0, []), some (.bipush 60, 2, 0, 0, 60, 0, []), none, 
  some (.newarray .int, 2, 0, 0, 0, 0, []), none, some (.putfield 60, 3, 11, 33, 33, 0, [(0, 116)]), none, none, some (.aload_n 0, 1, 0, 0, 0, 0, []), some (.bipush 60, 2, 0, 0, 60, 0, []), none, 
  some (.newarray .int, 2, 0, 0, 0, 0, []), none, some (.putfield 63, 3, 11, 35, 35, 0, [(0, 118)]), none, none, some (.iconst 0, 1, 0, 0, 0, 0, []), some (.istore_n 1, 1, 0, 0, 0, 0, []), 
  some (.iload_n 1, 1, 0, 0, 0, 0, []), some (.iconst 4, 1, 0, 0, 4, 0, []), some (.if_icmp .ge 16, 3, 169, 0, 0, 0, []), none, none, some (.aload_n 0, 1, 0, 0, 0, 0, []), some (.getfield 19, 3, 11, 4, 4, 0, [(0, 87)]), 
  none, none, some (.iload_n 1, 1, 0, 0, 0, 0, []), some (.iconst (-1), 1, 0, 0, -1, 0, []), some (.iastore, 1, 0, 0, 0, 0, []), some (.iinc 1 1, 3, 0, 0, 1, 0, []), none, none, some (.goto (-15), 3, 151, 0, 0, 0, []), 
  none, none, some (.return_, 1, 0, 0, 0, 0, [])]
set_option maxRecDepth 100000 in
def cdk12 : Cd := [some (.new 7, 3, 10, 0, 0, 0, [(0, 0)]), none, none, some (.dup, 1, 0, 0, 0, 0, []), some (.invokespecial 9, 3, 10, 0, 0, 0, [(0, 0)]), none, none, some (.astore_n 1, 1, 0, 0, 0, 0, []), 
  some (.new 10, 3, 11, 0, 0, 0, [(0, 12)]), none, none, some (.dup, 1, 0, 0, 0, 0, []), some (.invokespecial 12, 3, 11, 0, 0, 0, [(0, 15)]), none, none, some (.astore_n 2, 1, 0, 0, 0, 0, []), none, none, none, none, none, 
  none, none, none, none, none, none, none, none, none, none, none, none, none, none, none, none, none, none, none, none, none, none, none, none, none, none, none, none, none, none, none, none, none, none, none, none, none, 
  none, none, none, none, none, none, none, none, none, none, none, none, none, none, none, none, none, none, none, none, none, none, none, none, none, none, none, none, none, none, none, none, none, none, none, none, none, 
  none, none, none, none, none, none, none, none, none, none, none, none, none, none, none, none, none, none, none, none, none, none, none, none, none, none, none, none, none, none, none, none, none, none, none, none, none, 
  none, none, none, none, none, none, none, none, none, none, none, none, none, none, none, none, none, none, none, none, none, none, none, none, none, none, none, none, none, none, none, none, none, none, none, none, none, 
  none, none, none, none, none, none, none, none, none, none, none, none, none, none, none, none, none, none, none, none, none, none, none, none, none, none, none, none, none, none, none, none, none, none, none, none, none, 
  none, none, none, none, none, none, none, none, none, none, none, none, none, none, none, none, none, none, none, none, none, none, none, none, none, none, none, none, none, none, none, none, none, none, none, none, none, 
  none, none, none, none, none, none, none, none, none, none, none, none, none, none, none, none, none, none, none, none, none, none, none, none, none, none, none, none, none, none, none, none, none, none, none, none, none, 
  none, none, none, none, none, none, none, none, none, none, none, none, none, none, none, none, none, none, none, none, none, none, none, none, none, none, none, none, none, none, none, none, none, none, none, none, none, 
  none, none, none, none, none, none, none, none, none, none, none, none, none, none, none, none, none, none, none, none, none, none, none, none, none, none, none, none, none, none, none, none, none, none, none, none, none, 
  none, none, none, none, none, none, none, none, none, none, none, none, none, none, none, none, none, none, none, none, none, none, none, none, none, none, none, none, none, none, none, none, none, none, none, none, none, 
  none, none, none, none, none, none, none, none, none, none, none, none, none, none, none, none, none, none, none, none, none, none, none, none, none, none, none, none, none, none, none, none, none, none, none, none, none, 
  none, none, none, none, none, none, none, none, none, none, none, none, none, none, none, none, none, none, none, none, none, none, none, none, none, none, none, none, none, none, none, none, none, none, none, none, none, 
  none, none, none, none, none, none, none, none, none, none, none, none, none, none, none, none, none, none, none, none, none, none, none, none, none, none, none, none, none, none, none, none, none, none, none, none, none, 
  none, none, none, none, none, none, none, none, none, none, none, none, none, none, none, none, none, none, none, none, none, none, none, none, none, none, none, none, none, none, none, none, none, none, none, none, none, 
  none, none, none, none, none, none, none, none, none, none, none, none, none, none, none, none, none, none, none, none, none, none, none, none, none, none, none, none, none, none, none, none, none, none, none, none, none, 
  none, none, none, none, none, none, none, none, none, none, none, none, none, none, none, none, none, none, none, none, none, none, none, none, none, none, none, none, none, none, none, none, none, none, none, none, none, 
  none, none, none, none, none, none, none, none, none, none, none, none, none, none, none, none, none, none, none, none, none, none, none, none, none, none, none, none, none, none, none, none, none, none, none, none, none, 
  none, none, none, none, none, none, none, none, none, none, none, none, none, none, none, none, none, none, none, none, none, none, none, none, none, none, none, none, none, none, none, none, none, none, none, none, none, 
  none, none, none, none, none, none, none, none, none, none, none, none, none, none, none, none, none, none, none, none, none, none, none, none, none, none, none, none, none, none, none, none, none, none, none, none, none, 
  none, none, none, none, none, none, none, none, none, none, none, none, none, none, none, none, none, none, none, none, none, none, none, none, none, none, none, none, none, none, none, none, none, none, none, none, none, 
  none, none, none, none, none, none, none, none, none, none, none, none, none, none, none, none, none, none, none, none, none, none, none, none, none, none, none, none, none, none, none, none, none, none, none, none, none, 
  none, none, none, none, none, none, none, none, none, none, none, none, none, none, none, none, none, none, none, none, none, none, none, none, none, none, none, none, none, none, none, none, none, none, none, none, none, 
  none, none, none, none, none, none, none, none, none, none, none, none, none, none, none, none, none, none, none, none, none, none, none, none, none, none, none, none, none, none, none, none, none, none, none, none, none, 
  none, none, none, none, none, none, none, none, none, none, none, none, none, none, none, none, none, none, none, none, none, none, none, none, none, none, none, none, none, none, none, none, none, none, none, none, none, 
  none, none, none, none, none, none, none, none, none, none, none, none, none, none, none, none, none, none, none, none, none, none, none, none, none, none, none, none, none, none, none, none, none, none, none, none, none, 
  none, none, none, none, none, none, none, none, none, none, none, none, none, none, none, none, none, none, none, none, none, none, none, none, none, none, none, none, none, none, none, none, none, none, none, none, none, 
  none, none, none, none, none, none, none, none, none, none, none, none, none, none, none, none, none, none, none, none, none, none, none, none, none, none, none, none, none, none, none, none, none, none, none, none, none, 
  none, none, none, none, none, none, none, none, none, none, none, none, none, none, none, none, none, none, none, none, none, none, none, none, none, none, none, none, none, none, none, none, none, none, none, none, none, 
  none, none, none, none, none, none, none, none, none, none, none, none, none, none, none, none, none, none, none, none, none, none, none, none, none, none, none, none, none, none, none, none, none, none, none, none, none, 
  none, none, none, none, none, none, none, none, none, none, none, none, none, none, none, none, none, none, none, none, none, none, none, none, none, none, none, none, none, none, none, none, none, none, none, none, none, 
  none, none, none, none, none, none, none, none, none, none, none, none, none, none, none, none, none, none, none, none, none, none, none, none, none, none, none, none, none, none, none, none, none, none, none, none, none, 
  none, none, none, none, none, none, none, none, none, none, none, none, none, none, none, none, none, none, none, none, none, none, none, none, none, none, none, none, none, none, none, none, none, none, none, none, none, 
  none, none, none, none, none, none, none, none, none, none, none, none, none, none, none, none, none, none, none, none, none, none, none, none, none, none, none, none, none, none, none, none, none, none, none, none, none, 
  none, none, none, none, none, none, none, none, none, none, none, none, none, none, none, none, none, none, none, none, none, none, none, none, none, none, none, none, none, none, none, none, none, none, none, none, none, 
  none, none, none, none, none, none, none, none, none, none, none, none, none, none, none, none, none, none, none, none, none, none, none, none, none, none, none, none, none, none, none, none, none, none, none, none, none, 
  none, none, none, none, none, none, none, none, none, none, none, none, none, none, none, none, none, none, none, none, none, none, none, none, none, none, none, none, none, none, none, none, none, none, none, none, none, 
  none, none, none, none, none, none, none, none, none, none, none, none, none, none, none, none, none, none, none, none, none, none, none, none, none, none, none, none, none, none, none, none, none, none, none, none, none, 
  none, none, none, none, none, none, none, none, none, none, none, none, none, none, none, none, none, none, none, none, none, none, none, none, none, none, none, none, none, none, none, none, none, none, none, none, none, 
  none, none, none, none, none, none, none, none, none, none, none, none, none, none, none, none, none, none, none, none, none, none, none, none, none, none, none, none, none, none, none, none, none, none, none, none, none, 
  none, none, none, none, none, none, none, none, none, none, none, none, none, none, none, none, none, none, none, none, none, none, none, none, none, none, none, none, none, none, none, none, none, none, none, none, none, 
  none, none, none, none, none, none, none, none, none, none, none, none, none, none, none, none, none, none, none, none, none, none, none, none, none, none, none, none, none, none, none, none, none, none, none, none, none, 
  none, none, none, none, none, none, none, none, none, none, none, none, none, none, none, none, none, none, none, none, none, none, none, none, none, none, none, none, none, none, none, none, none, none, none, none, none, 
  none, none, none, none, none, none, none, none, none, none, none, none, none, none, none, none, none, none, none, none, none, none, none, none, none, none, none, none, none, none, none, none, none, none, none, none, none, 
  none, none, none, none, none, none, none, none, none, none, none, none, none, none, none, none, none, none, none, none, none, none, none, none, none, none, none, none, none, none, none, none, none, none, none, none, none, 
  none, none, none, none, none, none, none, none, none, none, none, none, none, none, none, none, none, none, none, none, none, none, none, none, none, none, none, none, none, none, none, none, none, none, none, none, none, 
  none, none, none, none, none, none, none, none, none, none, none, none, none, none, none, none, none, none, none, none, none, none, none, none, none, none, none, none, none, none, none, none, none, none, none, none]
set_option maxRecDepth 100000 in
def cdL0 : Cd := [none, none, none, none, none, none, none, none, none, none, none, none, none, none, none, none, some (.iconst 0, 1, 0, 0, 0, 0, []), some (.istore_n 3, 1, 0, 0, 0, 0, []), some (.iload_n 3, 1, 0, 0, 0, 0, []), some (.aload_n 0, 1, 0, 0, 0, 0, []), some (.arraylength, 1, 0, 0, 0, 0, []), some (.bipush 6, 2, 0, 0, 6, 0, []), none, some (.isub, 1, 0, 0, 0, 0, []), some (.if_icmp .gt 1696, 3, 1720, 0, 0, 0, []), none, none, some (.aload_n 0, 1, 0, 0, 0, 0, []), some (.iload_n 3, 1, 0, 0, 0, 0, []), some (.iaload, 1, 0, 0, 0, 0, []), some (.bipush 63, 2, 0, 0, 63, 0, []), none, some (.iand, 1, 0, 0, 0, 0, []), some (.tableswitch 1681 0 47 #[207, 250, 283, 316, 349, 392, 425, 468, 511, 544, 577, 600, 613, 626, 679, 712, 745, 778, 801, 834, 857, 880, 903, 946, 969, 992, 1025, 1048, 1101, 1124, 1157, 1180, 1213, 1236, 1269, 1302, 1325, 1348, 1371, 1414, 1457, 1500, 1563, 1586, 1609, 1632, 1645, 1658], 207, 1714, 0, 0, 0, [(0, 240), (1, 283), (2, 316), (3, 349), (4, 382), (5, 425), (6, 458), (7, 501), (8, 544), (9, 577), (10, 610), (11, 633), (12, 646), (13, 659), (14, 712), (15, 745), (16, 778), (17, 811), (18, 834), (19, 867), (20, 890), (21, 913), (22, 936), (23, 979), (24, 1002), (25, 1025), (26, 1058), (27, 1081), (28, 1134), (29, 1157), (30, 1190), (31, 1213), (32, 1246), (33, 1269), (34, 1302), (35, 1335), (36, 1358), (37, 1381), (38, 1404), (39, 1447), (40, 1490), (41, 1533), (42, 1596), (43, 1619), (44, 1642), (45, 1665), (46, 1678), (47, 1691)]), none, none, none, none, none, none, none, none, none, none, none, none, none, none, none, none, none, none, none, none, none, none, none, none, none, none, none, none, none, none, none, none, none, none, none, none, none, none]
set_option maxRecDepth 100000 in
def cdL1 : Cd := [none, none, none, none, none, none, none, none, none, none, none, none, none, none, none, none, none, none, none, none, none, none, none, none, none, none, none, none, none, none, none, none, none, none, none, none, none, none, none, none, none, none, none, none, none, none, none, none, none, none, none, none, none, none, none, none, none, none, none, none, none, none, none, none, none, none, none, none, none, none, none, none]
set_option maxRecDepth 100000 in
def cdL2 : Cd := [none, none, none, none, none, none, none, none, none, none, none, none, none, none, none, none, none, none, none, none, none, none, none, none, none, none, none, none, none, none, none, none, none, none, none, none, none, none, none, none, none, none, none, none, none, none, none, none, none, none, none, none, none, none, none, none, none, none, none, none, none, none, none, none, none, none, none, none, none, none, none, none]
set_option maxRecDepth 100000 in
def cdL3 : Cd := [none, none, none, none, none, none, none, none, none, none, none, none, none, none, none, none, none, none, none, none, none, none, none, none, some (.aload_n 1, 1, 0, 0, 0, 0, []), some (.aload_n 0, 1, 0, 0, 0, 0, []), some (.iload_n 3, 1, 0, 0, 0, 0, []), some (.iconst 1, 1, 0, 0, 1, 0, []), some (.iadd, 1, 0, 0, 0, 0, []), some (.iaload, 1, 0, 0, 0, 0, []), some (.aload_n 0, 1, 0, 0, 0, 0, []), some (.iload_n 3, 1, 0, 0, 0, 0, []), some (.iconst 2, 1, 0, 0, 2, 0, []), some (.iadd, 1, 0, 0, 0, 0, []), some (.iaload, 1, 0, 0, 0, 0, []), some (.aload_n 0, 1, 0, 0, 0, 0, []), some (.iload_n 3, 1, 0, 0, 0, 0, []), some (.iconst 3, 1, 0, 0, 3, 0, []), some (.iadd, 1, 0, 0, 0, 0, []), some (.iaload, 1, 0, 0, 0, 0, []), some (.invokevirtual 13, 3, 105, 3, 0, 0, [(0, 0)]), none, none, some (.pop, 1, 0, 0, 0, 0, []), some (.aload_n 2, 1, 0, 0, 0, 0, []), some (.aload_n 0, 1, 0, 0, 0, 0, []), some (.iload_n 3, 1, 0, 0, 0, 0, []), some (.iconst 1, 1, 0, 0, 1, 0, []), some (.iadd, 1, 0, 0, 0, 0, []), some (.iaload, 1, 0, 0, 0, 0, []), some (.aload_n 0, 1, 0, 0, 0, 0, []), some (.iload_n 3, 1, 0, 0, 0, 0, []), some (.iconst 2, 1, 0, 0, 2, 0, []), some (.iadd, 1, 0, 0, 0, 0, []), some (.iaload, 1, 0, 0, 0, 0, []), some (.aload_n 0, 1, 0, 0, 0, 0, []), some (.iload_n 3, 1, 0, 0, 0, 0, []), some (.iconst 3, 1, 0, 0, 3, 0, []), some (.iadd, 1, 0, 0, 0, 0, []), some (.iaload, 1, 0, 0, 0, 0, []), some (.invokevirtual 17, 3, 175, 3, 0, 0, [(0, 193)]), none, none, some (.pop, 1, 0, 0, 0, 0, []), some (.goto 1434, 3, 1714, 0, 0, 0, []), none, none, some (.aload_n 1, 1, 0, 0, 0, 0, []), some (.aload_n 0, 1, 0, 0, 0, 0, []), some (.iload_n 3, 1, 0, 0, 0, 0, []), some (.iconst 1, 1, 0, 0, 1, 0, []), some (.iadd, 1, 0, 0, 0, 0, [])]
set_option maxRecDepth 100000 in
def cdL4 : Cd := [some (.iaload, 1, 0, 0, 0, 0, []), some (.aload_n 0, 1, 0, 0, 0, 0, []), some (.iload_n 3, 1, 0, 0, 0, 0, []), some (.iconst 2, 1, 0, 0, 2, 0, []), some (.iadd, 1, 0, 0, 0, 0, []), some (.iaload, 1, 0, 0, 0, 0, []), some (.invokevirtual 18, 3, 106, 2, 0, 0, [(0, 5)]), none, none, some (.pop, 1, 0, 0, 0, 0, []), some (.aload_n 2, 1, 0, 0, 0, 0, []), some (.aload_n 0, 1, 0, 0, 0, 0, []), some (.iload_n 3, 1, 0, 0, 0, 0, []), some (.iconst 1, 1, 0, 0, 1, 0, []), some (.iadd, 1, 0, 0, 0, 0, []), some (.iaload, 1, 0, 0, 0, 0, []), some (.aload_n 0, 1, 0, 0, 0, 0, []), some (.iload_n 3, 1, 0, 0, 0, 0, []), some (.iconst 2, 1, 0, 0, 2, 0, []), some (.iadd, 1, 0, 0, 0, 0, []), some (.iaload, 1, 0, 0, 0, 0, []), some (.invokevirtual 22, 3, 176, 2, 0, 0, [(0, 196)]), none, none, some (.pop, 1, 0, 0, 0, 0, []), some (.goto 1401, 3, 1714, 0, 0, 0, []), none, none, some (.aload_n 1, 1, 0, 0, 0, 0, []), some (.aload_n 0, 1, 0, 0, 0, 0, []), some (.iload_n 3, 1, 0, 0, 0, 0, []), some (.iconst 1, 1, 0, 0, 1, 0, []), some (.iadd, 1, 0, 0, 0, 0, []), some (.iaload, 1, 0, 0, 0, 0, []), some (.aload_n 0, 1, 0, 0, 0, 0, []), some (.iload_n 3, 1, 0, 0, 0, 0, []), some (.iconst 2, 1, 0, 0, 2, 0, []), some (.iadd, 1, 0, 0, 0, 0, []), some (.iaload, 1, 0, 0, 0, 0, []), some (.invokevirtual 23, 3, 107, 2, 0, 0, [(0, 10)]), none, none, some (.pop, 1, 0, 0, 0, 0, []), some (.aload_n 2, 1, 0, 0, 0, 0, []), some (.aload_n 0, 1, 0, 0, 0, 0, []), some (.iload_n 3, 1, 0, 0, 0, 0, []), some (.iconst 1, 1, 0, 0, 1, 0, []), some (.iadd, 1, 0, 0, 0, 0, []), some (.iaload, 1, 0, 0, 0, 0, []), some (.aload_n 0, 1, 0, 0, 0, 0, []), some (.iload_n 3, 1, 0, 0, 0, 0, []), some (.iconst 2, 1, 0, 0, 2, 0, []), some (.iadd, 1, 0, 0, 0, 0, []), some (.iaload, 1, 0, 0, 0, 0, []), some (.invokevirtual 26, 3, 177, 2, 0, 0, [(0, 199)]), none, none, some (.pop, 1, 0, 0, 0, 0, []), some (.goto 1368, 3, 1714, 0, 0, 0, []), none, none, some (.aload_n 1, 1, 0, 0, 0, 0, []), some (.aload_n 0, 1, 0, 0, 0, 0, []), some (.iload_n 3, 1, 0, 0, 0, 0, []), some (.iconst 1, 1, 0, 0, 1, 0, []), some (.iadd, 1, 0, 0, 0, 0, []), some (.iaload, 1, 0, 0, 0, 0, []), some (.aload_n 0, 1, 0, 0, 0, 0, []), some (.iload_n 3, 1, 0, 0, 0, 0, []), some (.iconst 2, 1, 0, 0, 2, 0, []), some (.iadd, 1, 0, 0, 0, 0, []), some (.iaload, 1, 0, 0, 0, 0, [])]
set_option maxRecDepth 100000 in
def cdL5 : Cd := [some (.invokevirtual 27, 3, 108, 2, 0, 0, [(0, 11)]), none, none, some (.pop, 1, 0, 0, 0, 0, []), some (.aload_n 2, 1, 0, 0, 0, 0, []), some (.aload_n 0, 1, 0, 0, 0, 0, []), some (.iload_n 3, 1, 0, 0, 0, 0, []), some (.iconst 1, 1, 0, 0, 1, 0, []), some (.iadd, 1, 0, 0, 0, 0, []), some (.iaload, 1, 0, 0, 0, 0, []), some (.aload_n 0, 1, 0, 0, 0, 0, []), some (.iload_n 3, 1, 0, 0, 0, 0, []), some (.iconst 2, 1, 0, 0, 2, 0, []), some (.iadd, 1, 0, 0, 0, 0, []), some (.iaload, 1, 0, 0, 0, 0, []), some (.invokevirtual 30, 3, 180, 2, 0, 0, [(0, 200)]), none, none, some (.pop, 1, 0, 0, 0, 0, []), some (.goto 1335, 3, 1714, 0, 0, 0, []), none, none, some (.aload_n 1, 1, 0, 0, 0, 0, []), some (.aload_n 0, 1, 0, 0, 0, 0, []), some (.iload_n 3, 1, 0, 0, 0, 0, []), some (.iconst 1, 1, 0, 0, 1, 0, []), some (.iadd, 1, 0, 0, 0, 0, []), some (.iaload, 1, 0, 0, 0, 0, []), some (.aload_n 0, 1, 0, 0, 0, 0, []), some (.iload_n 3, 1, 0, 0, 0, 0, []), some (.iconst 2, 1, 0, 0, 2, 0, []), some (.iadd, 1, 0, 0, 0, 0, []), some (.iaload, 1, 0, 0, 0, 0, []), some (.aload_n 0, 1, 0, 0, 0, 0, []), some (.iload_n 3, 1, 0, 0, 0, 0, []), some (.iconst 3, 1, 0, 0, 3, 0, []), some (.iadd, 1, 0, 0, 0, 0, []), some (.iaload, 1, 0, 0, 0, 0, []), some (.invokevirtual 31, 3, 109, 3, 0, 0, [(0, 19)]), none, none, some (.pop, 1, 0, 0, 0, 0, []), some (.aload_n 2, 1, 0, 0, 0, 0, []), some (.aload_n 0, 1, 0, 0, 0, 0, []), some (.iload_n 3, 1, 0, 0, 0, 0, []), some (.iconst 1, 1, 0, 0, 1, 0, []), some (.iadd, 1, 0, 0, 0, 0, []), some (.iaload, 1, 0, 0, 0, 0, []), some (.aload_n 0, 1, 0, 0, 0, 0, []), some (.iload_n 3, 1, 0, 0, 0, 0, []), some (.iconst 2, 1, 0, 0, 2, 0, []), some (.iadd, 1, 0, 0, 0, 0, []), some (.iaload, 1, 0, 0, 0, 0, []), some (.aload_n 0, 1, 0, 0, 0, 0, []), some (.iload_n 3, 1, 0, 0, 0, 0, []), some (.iconst 3, 1, 0, 0, 3, 0, []), some (.iadd, 1, 0, 0, 0, 0, []), some (.iaload, 1, 0, 0, 0, 0, []), some (.invokevirtual 34, 3, 181, 3, 0, 0, [(0, 206)]), none, none, some (.pop, 1, 0, 0, 0, 0, []), some (.goto 1292, 3, 1714, 0, 0, 0, []), none, none, some (.aload_n 1, 1, 0, 0, 0, 0, []), some (.aload_n 0, 1, 0, 0, 0, 0, []), some (.iload_n 3, 1, 0, 0, 0, 0, []), some (.iconst 1, 1, 0, 0, 1, 0, []), some (.iadd, 1, 0, 0, 0, 0, []), some (.iaload, 1, 0, 0, 0, 0, []), some (.aload_n 0, 1, 0, 0, 0, 0, [])]
set_option maxRecDepth 100000 in
def cdL6 : Cd := [some (.iload_n 3, 1, 0, 0, 0, 0, []), some (.iconst 2, 1, 0, 0, 2, 0, []), some (.iadd, 1, 0, 0, 0, 0, []), some (.iaload, 1, 0, 0, 0, 0, []), some (.invokevirtual 35, 3, 110, 2, 0, 0, [(0, 20)]), none, none, some (.pop, 1, 0, 0, 0, 0, []), some (.aload_n 2, 1, 0, 0, 0, 0, []), some (.aload_n 0, 1, 0, 0, 0, 0, []), some (.iload_n 3, 1, 0, 0, 0, 0, []), some (.iconst 1, 1, 0, 0, 1, 0, []), some (.iadd, 1, 0, 0, 0, 0, []), some (.iaload, 1, 0, 0, 0, 0, []), some (.aload_n 0, 1, 0, 0, 0, 0, []), some (.iload_n 3, 1, 0, 0, 0, 0, []), some (.iconst 2, 1, 0, 0, 2, 0, []), some (.iadd, 1, 0, 0, 0, 0, []), some (.iaload, 1, 0, 0, 0, 0, []), some (.invokevirtual 38, 3, 182, 2, 0, 0, [(0, 207)]), none, none, some (.pop, 1, 0, 0, 0, 0, []), some (.goto 1259, 3, 1714, 0, 0, 0, []), none, none, some (.aload_n 1, 1, 0, 0, 0, 0, []), some (.aload_n 0, 1, 0, 0, 0, 0, []), some (.iload_n 3, 1, 0, 0, 0, 0, []), some (.iconst 1, 1, 0, 0, 1, 0, []), some (.iadd, 1, 0, 0, 0, 0, []), some (.iaload, 1, 0, 0, 0, 0, []), some (.aload_n 0, 1, 0, 0, 0, 0, []), some (.iload_n 3, 1, 0, 0, 0, 0, []), some (.iconst 2, 1, 0, 0, 2, 0, []), some (.iadd, 1, 0, 0, 0, 0, []), some (.iaload, 1, 0, 0, 0, 0, []), some (.aload_n 0, 1, 0, 0, 0, 0, []), some (.iload_n 3, 1, 0, 0, 0, 0, []), some (.iconst 3, 1, 0, 0, 3, 0, []), some (.iadd, 1, 0, 0, 0, 0, []), some (.iaload, 1, 0, 0, 0, 0, []), some (.invokevirtual 39, 3, 111, 3, 0, 0, [(0, 21)]), none, none, some (.pop, 1, 0, 0, 0, 0, []), some (.aload_n 2, 1, 0, 0, 0, 0, []), some (.aload_n 0, 1, 0, 0, 0, 0, []), some (.iload_n 3, 1, 0, 0, 0, 0, []), some (.iconst 1, 1, 0, 0, 1, 0, []), some (.iadd, 1, 0, 0, 0, 0, []), some (.iaload, 1, 0, 0, 0, 0, []), some (.aload_n 0, 1, 0, 0, 0, 0, []), some (.iload_n 3, 1, 0, 0, 0, 0, []), some (.iconst 2, 1, 0, 0, 2, 0, []), some (.iadd, 1, 0, 0, 0, 0, []), some (.iaload, 1, 0, 0, 0, 0, []), some (.aload_n 0, 1, 0, 0, 0, 0, []), some (.iload_n 3, 1, 0, 0, 0, 0, []), some (.iconst 3, 1, 0, 0, 3, 0, []), some (.iadd, 1, 0, 0, 0, 0, []), some (.iaload, 1, 0, 0, 0, 0, []), some (.invokevirtual 42, 3, 183, 3, 0, 0, [(0, 210)]), none, none, some (.pop, 1, 0, 0, 0, 0, []), some (.goto 1216, 3, 1714, 0, 0, 0, []), none, none, some (.aload_n 1, 1, 0, 0, 0, 0, []), some (.aload_n 0, 1, 0, 0, 0, 0, []), some (.iload_n 3, 1, 0, 0, 0, 0, [])]
set_option maxRecDepth 100000 in
def cdL7 : Cd := [some (.iconst 1, 1, 0, 0, 1, 0, []), some (.iadd, 1, 0, 0, 0, 0, []), some (.iaload, 1, 0, 0, 0, 0, []), some (.aload_n 0, 1, 0, 0, 0, 0, []), some (.iload_n 3, 1, 0, 0, 0, 0, []), some (.iconst 2, 1, 0, 0, 2, 0, []), some (.iadd, 1, 0, 0, 0, 0, []), some (.iaload, 1, 0, 0, 0, 0, []), some (.aload_n 0, 1, 0, 0, 0, 0, []), some (.iload_n 3, 1, 0, 0, 0, 0, []), some (.iconst 3, 1, 0, 0, 3, 0, []), some (.iadd, 1, 0, 0, 0, 0, []), some (.iaload, 1, 0, 0, 0, 0, []), some (.invokevirtual 43, 3, 113, 3, 0, 0, [(0, 23)]), none, none, some (.pop, 1, 0, 0, 0, 0, []), some (.aload_n 2, 1, 0, 0, 0, 0, []), some (.aload_n 0, 1, 0, 0, 0, 0, []), some (.iload_n 3, 1, 0, 0, 0, 0, []), some (.iconst 1, 1, 0, 0, 1, 0, []), some (.iadd, 1, 0, 0, 0, 0, []), some (.iaload, 1, 0, 0, 0, 0, []), some (.aload_n 0, 1, 0, 0, 0, 0, []), some (.iload_n 3, 1, 0, 0, 0, 0, []), some (.iconst 2, 1, 0, 0, 2, 0, []), some (.iadd, 1, 0, 0, 0, 0, []), some (.iaload, 1, 0, 0, 0, 0, []), some (.aload_n 0, 1, 0, 0, 0, 0, []), some (.iload_n 3, 1, 0, 0, 0, 0, []), some (.iconst 3, 1, 0, 0, 3, 0, []), some (.iadd, 1, 0, 0, 0, 0, []), some (.iaload, 1, 0, 0, 0, 0, []), some (.invokevirtual 46, 3, 185, 3, 0, 0, [(0, 211)]), none, none, some (.pop, 1, 0, 0, 0, 0, []), some (.goto 1173, 3, 1714, 0, 0, 0, []), none, none, some (.aload_n 1, 1, 0, 0, 0, 0, []), some (.aload_n 0, 1, 0, 0, 0, 0, []), some (.iload_n 3, 1, 0, 0, 0, 0, []), some (.iconst 1, 1, 0, 0, 1, 0, []), some (.iadd, 1, 0, 0, 0, 0, []), some (.iaload, 1, 0, 0, 0, 0, []), some (.aload_n 0, 1, 0, 0, 0, 0, []), some (.iload_n 3, 1, 0, 0, 0, 0, []), some (.iconst 2, 1, 0, 0, 2, 0, []), some (.iadd, 1, 0, 0, 0, 0, []), some (.iaload, 1, 0, 0, 0, 0, []), some (.invokevirtual 47, 3, 114, 2, 0, 0, [(0, 27)]), none, none, some (.pop, 1, 0, 0, 0, 0, []), some (.aload_n 2, 1, 0, 0, 0, 0, []), some (.aload_n 0, 1, 0, 0, 0, 0, []), some (.iload_n 3, 1, 0, 0, 0, 0, []), some (.iconst 1, 1, 0, 0, 1, 0, []), some (.iadd, 1, 0, 0, 0, 0, []), some (.iaload, 1, 0, 0, 0, 0, []), some (.aload_n 0, 1, 0, 0, 0, 0, []), some (.iload_n 3, 1, 0, 0, 0, 0, []), some (.iconst 2, 1, 0, 0, 2, 0, []), some (.iadd, 1, 0, 0, 0, 0, []), some (.iaload, 1, 0, 0, 0, 0, []), some (.invokevirtual 50, 3, 187, 2, 0, 0, [(0, 212)]), none, none, some (.pop, 1, 0, 0, 0, 0, []), some (.goto 1140, 3, 1714, 0, 0, 0, []), none]
set_option maxRecDepth 100000 in
def cdL8 : Cd := [none, some (.aload_n 1, 1, 0, 0, 0, 0, []), some (.aload_n 0, 1, 0, 0, 0, 0, []), some (.iload_n 3, 1, 0, 0, 0, 0, []), some (.iconst 1, 1, 0, 0, 1, 0, []), some (.iadd, 1, 0, 0, 0, 0, []), some (.iaload, 1, 0, 0, 0, 0, []), some (.aload_n 0, 1, 0, 0, 0, 0, []), some (.iload_n 3, 1, 0, 0, 0, 0, []), some (.iconst 2, 1, 0, 0, 2, 0, []), some (.iadd, 1, 0, 0, 0, 0, []), some (.iaload, 1, 0, 0, 0, 0, []), some (.invokevirtual 51, 3, 115, 2, 0, 0, [(0, 30)]), none, none, some (.pop, 1, 0, 0, 0, 0, []), some (.aload_n 2, 1, 0, 0, 0, 0, []), some (.aload_n 0, 1, 0, 0, 0, 0, []), some (.iload_n 3, 1, 0, 0, 0, 0, []), some (.iconst 1, 1, 0, 0, 1, 0, []), some (.iadd, 1, 0, 0, 0, 0, []), some (.iaload, 1, 0, 0, 0, 0, []), some (.aload_n 0, 1, 0, 0, 0, 0, []), some (.iload_n 3, 1, 0, 0, 0, 0, []), some (.iconst 2, 1, 0, 0, 2, 0, []), some (.iadd, 1, 0, 0, 0, 0, []), some (.iaload, 1, 0, 0, 0, 0, []), some (.invokevirtual 54, 3, 189, 2, 0, 0, [(0, 215)]), none, none, some (.pop, 1, 0, 0, 0, 0, []), some (.goto 1107, 3, 1714, 0, 0, 0, []), none, none, some (.aload_n 1, 1, 0, 0, 0, 0, []), some (.aload_n 0, 1, 0, 0, 0, 0, []), some (.iload_n 3, 1, 0, 0, 0, 0, []), some (.iconst 1, 1, 0, 0, 1, 0, []), some (.iadd, 1, 0, 0, 0, 0, []), some (.iaload, 1, 0, 0, 0, 0, []), some (.invokevirtual 55, 3, 116, 1, 0, 0, [(0, 37)]), none, none, some (.pop, 1, 0, 0, 0, 0, []), some (.aload_n 2, 1, 0, 0, 0, 0, []), some (.aload_n 0, 1, 0, 0, 0, 0, []), some (.iload_n 3, 1, 0, 0, 0, 0, []), some (.iconst 1, 1, 0, 0, 1, 0, []), some (.iadd, 1, 0, 0, 0, 0, []), some (.iaload, 1, 0, 0, 0, 0, []), some (.invokevirtual 59, 3, 193, 1, 0, 0, [(0, 218)]), none, none, some (.pop, 1, 0, 0, 0, 0, []), some (.goto 1084, 3, 1714, 0, 0, 0, []), none, none, some (.aload_n 1, 1, 0, 0, 0, 0, []), some (.invokevirtual 60, 3, 117, 0, 0, 0, [(0, 54)]), none, none, some (.pop, 1, 0, 0, 0, 0, []), some (.aload_n 2, 1, 0, 0, 0, 0, []), some (.invokevirtual 64, 3, 194, 0, 0, 0, [(0, 222)]), none, none, some (.pop, 1, 0, 0, 0, 0, []), some (.goto 1071, 3, 1714, 0, 0, 0, []), none, none, some (.aload_n 1, 1, 0, 0, 0, 0, []), some (.invokevirtual 65, 3, 118, 0, 0, 0, [(0, 56)])]
set_option maxRecDepth 100000 in
def cdL9 : Cd := [none, none, some (.pop, 1, 0, 0, 0, 0, []), some (.aload_n 2, 1, 0, 0, 0, 0, []), some (.invokevirtual 68, 3, 195, 0, 0, 0, [(0, 223)]), none, none, some (.pop, 1, 0, 0, 0, 0, []), some (.goto 1058, 3, 1714, 0, 0, 0, []), none, none, some (.aload_n 1, 1, 0, 0, 0, 0, []), some (.aload_n 0, 1, 0, 0, 0, 0, []), some (.iload_n 3, 1, 0, 0, 0, 0, []), some (.iconst 1, 1, 0, 0, 1, 0, []), some (.iadd, 1, 0, 0, 0, 0, []), some (.iaload, 1, 0, 0, 0, 0, []), some (.aload_n 0, 1, 0, 0, 0, 0, []), some (.iload_n 3, 1, 0, 0, 0, 0, []), some (.iconst 2, 1, 0, 0, 2, 0, []), some (.iadd, 1, 0, 0, 0, 0, []), some (.iaload, 1, 0, 0, 0, 0, []), some (.aload_n 0, 1, 0, 0, 0, 0, []), some (.iload_n 3, 1, 0, 0, 0, 0, []), some (.iconst 3, 1, 0, 0, 3, 0, []), some (.iadd, 1, 0, 0, 0, 0, []), some (.iaload, 1, 0, 0, 0, 0, []), some (.aload_n 0, 1, 0, 0, 0, 0, []), some (.iload_n 3, 1, 0, 0, 0, 0, []), some (.iconst 4, 1, 0, 0, 4, 0, []), some (.iadd, 1, 0, 0, 0, 0, []), some (.iaload, 1, 0, 0, 0, 0, []), some (.invokevirtual 69, 3, 119, 4, 0, 0, [(0, 57)]), none, none, some (.pop, 1, 0, 0, 0, 0, []), some (.aload_n 2, 1, 0, 0, 0, 0, []), some (.aload_n 0, 1, 0, 0, 0, 0, []), some (.iload_n 3, 1, 0, 0, 0, 0, []), some (.iconst 1, 1, 0, 0, 1, 0, []), some (.iadd, 1, 0, 0, 0, 0, []), some (.iaload, 1, 0, 0, 0, 0, []), some (.aload_n 0, 1, 0, 0, 0, 0, []), some (.iload_n 3, 1, 0, 0, 0, 0, []), some (.iconst 2, 1, 0, 0, 2, 0, []), some (.iadd, 1, 0, 0, 0, 0, []), some (.iaload, 1, 0, 0, 0, 0, []), some (.aload_n 0, 1, 0, 0, 0, 0, []), some (.iload_n 3, 1, 0, 0, 0, 0, []), some (.iconst 3, 1, 0, 0, 3, 0, []), some (.iadd, 1, 0, 0, 0, 0, []), some (.iaload, 1, 0, 0, 0, 0, []), some (.aload_n 0, 1, 0, 0, 0, 0, []), some (.iload_n 3, 1, 0, 0, 0, 0, []), some (.iconst 4, 1, 0, 0, 4, 0, []), some (.iadd, 1, 0, 0, 0, 0, []), some (.iaload, 1, 0, 0, 0, 0, []), some (.invokevirtual 73, 3, 197, 4, 0, 0, [(0, 224)]), none, none, some (.pop, 1, 0, 0, 0, 0, []), some (.goto 1005, 3, 1714, 0, 0, 0, []), none, none, some (.aload_n 1, 1, 0, 0, 0, 0, []), some (.aload_n 0, 1, 0, 0, 0, 0, []), some (.iload_n 3, 1, 0, 0, 0, 0, []), some (.iconst 1, 1, 0, 0, 1, 0, []), some (.iadd, 1, 0, 0, 0, 0, []), some (.iaload, 1, 0, 0, 0, 0, []), some (.aload_n 0, 1, 0, 0, 0, 0, []), some (.iload_n 3, 1, 0, 0, 0, 0, [])]
set_option maxRecDepth 100000 in
def cdL10 : Cd := [some (.iconst 2, 1, 0, 0, 2, 0, []), some (.iadd, 1, 0, 0, 0, 0, []), some (.iaload, 1, 0, 0, 0, 0, []), some (.invokevirtual 74, 3, 120, 2, 0, 0, [(0, 60)]), none, none, some (.pop, 1, 0, 0, 0, 0, []), some (.aload_n 2, 1, 0, 0, 0, 0, []), some (.aload_n 0, 1, 0, 0, 0, 0, []), some (.iload_n 3, 1, 0, 0, 0, 0, []), some (.iconst 1, 1, 0, 0, 1, 0, []), some (.iadd, 1, 0, 0, 0, 0, []), some (.iaload, 1, 0, 0, 0, 0, []), some (.aload_n 0, 1, 0, 0, 0, 0, []), some (.iload_n 3, 1, 0, 0, 0, 0, []), some (.iconst 2, 1, 0, 0, 2, 0, []), some (.iadd, 1, 0, 0, 0, 0, []), some (.iaload, 1, 0, 0, 0, 0, []), some (.invokevirtual 77, 3, 198, 2, 0, 0, [(0, 226)]), none, none, some (.pop, 1, 0, 0, 0, 0, []), some (.goto 972, 3, 1714, 0, 0, 0, []), none, none, some (.aload_n 1, 1, 0, 0, 0, 0, []), some (.aload_n 0, 1, 0, 0, 0, 0, []), some (.iload_n 3, 1, 0, 0, 0, 0, []), some (.iconst 1, 1, 0, 0, 1, 0, []), some (.iadd, 1, 0, 0, 0, 0, []), some (.iaload, 1, 0, 0, 0, 0, []), some (.aload_n 0, 1, 0, 0, 0, 0, []), some (.iload_n 3, 1, 0, 0, 0, 0, []), some (.iconst 2, 1, 0, 0, 2, 0, []), some (.iadd, 1, 0, 0, 0, 0, []), some (.iaload, 1, 0, 0, 0, 0, []), some (.invokevirtual 78, 3, 121, 2, 0, 0, [(0, 61)]), none, none, some (.pop, 1, 0, 0, 0, 0, []), some (.aload_n 2, 1, 0, 0, 0, 0, []), some (.aload_n 0, 1, 0, 0, 0, 0, []), some (.iload_n 3, 1, 0, 0, 0, 0, []), some (.iconst 1, 1, 0, 0, 1, 0, []), some (.iadd, 1, 0, 0, 0, 0, []), some (.iaload, 1, 0, 0, 0, 0, []), some (.aload_n 0, 1, 0, 0, 0, 0, []), some (.iload_n 3, 1, 0, 0, 0, 0, []), some (.iconst 2, 1, 0, 0, 2, 0, []), some (.iadd, 1, 0, 0, 0, 0, []), some (.iaload, 1, 0, 0, 0, 0, []), some (.invokevirtual 81, 3, 199, 2, 0, 0, [(0, 228)]), none, none, some (.pop, 1, 0, 0, 0, 0, []), some (.goto 939, 3, 1714, 0, 0, 0, []), none, none, some (.aload_n 1, 1, 0, 0, 0, 0, []), some (.aload_n 0, 1, 0, 0, 0, 0, []), some (.iload_n 3, 1, 0, 0, 0, 0, []), some (.iconst 1, 1, 0, 0, 1, 0, []), some (.iadd, 1, 0, 0, 0, 0, []), some (.iaload, 1, 0, 0, 0, 0, []), some (.aload_n 0, 1, 0, 0, 0, 0, []), some (.iload_n 3, 1, 0, 0, 0, 0, []), some (.iconst 2, 1, 0, 0, 2, 0, []), some (.iadd, 1, 0, 0, 0, 0, []), some (.iaload, 1, 0, 0, 0, 0, []), some (.invokevirtual 82, 3, 122, 2, 0, 0, [(0, 63)]), none, none]
set_option maxRecDepth 100000 in
def cdL11 : Cd := [some (.pop, 1, 0, 0, 0, 0, []), some (.aload_n 2, 1, 0, 0, 0, 0, []), some (.aload_n 0, 1, 0, 0, 0, 0, []), some (.iload_n 3, 1, 0, 0, 0, 0, []), some (.iconst 1, 1, 0, 0, 1, 0, []), some (.iadd, 1, 0, 0, 0, 0, []), some (.iaload, 1, 0, 0, 0, 0, []), some (.aload_n 0, 1, 0, 0, 0, 0, []), some (.iload_n 3, 1, 0, 0, 0, 0, []), some (.iconst 2, 1, 0, 0, 2, 0, []), some (.iadd, 1, 0, 0, 0, 0, []), some (.iaload, 1, 0, 0, 0, 0, []), some (.invokevirtual 85, 3, 200, 2, 0, 0, [(0, 229)]), none, none, some (.pop, 1, 0, 0, 0, 0, []), some (.goto 906, 3, 1714, 0, 0, 0, []), none, none, some (.aload_n 1, 1, 0, 0, 0, 0, []), some (.aload_n 0, 1, 0, 0, 0, 0, []), some (.iload_n 3, 1, 0, 0, 0, 0, []), some (.iconst 1, 1, 0, 0, 1, 0, []), some (.iadd, 1, 0, 0, 0, 0, []), some (.iaload, 1, 0, 0, 0, 0, []), some (.invokevirtual 86, 3, 123, 1, 0, 0, [(0, 66)]), none, none, some (.pop, 1, 0, 0, 0, 0, []), some (.aload_n 2, 1, 0, 0, 0, 0, []), some (.aload_n 0, 1, 0, 0, 0, 0, []), some (.iload_n 3, 1, 0, 0, 0, 0, []), some (.iconst 1, 1, 0, 0, 1, 0, []), some (.iadd, 1, 0, 0, 0, 0, []), some (.iaload, 1, 0, 0, 0, 0, []), some (.invokevirtual 89, 3, 201, 1, 0, 0, [(0, 230)]), none, none, some (.pop, 1, 0, 0, 0, 0, []), some (.goto 883, 3, 1714, 0, 0, 0, []), none, none, some (.aload_n 1, 1, 0, 0, 0, 0, []), some (.aload_n 0, 1, 0, 0, 0, 0, []), some (.iload_n 3, 1, 0, 0, 0, 0, []), some (.iconst 1, 1, 0, 0, 1, 0, []), some (.iadd, 1, 0, 0, 0, 0, []), some (.iaload, 1, 0, 0, 0, 0, []), some (.aload_n 0, 1, 0, 0, 0, 0, []), some (.iload_n 3, 1, 0, 0, 0, 0, []), some (.iconst 2, 1, 0, 0, 2, 0, []), some (.iadd, 1, 0, 0, 0, 0, []), some (.iaload, 1, 0, 0, 0, 0, []), some (.invokevirtual 90, 3, 124, 2, 0, 0, [(0, 67)]), none, none, some (.pop, 1, 0, 0, 0, 0, []), some (.aload_n 2, 1, 0, 0, 0, 0, []), some (.aload_n 0, 1, 0, 0, 0, 0, []), some (.iload_n 3, 1, 0, 0, 0, 0, []), some (.iconst 1, 1, 0, 0, 1, 0, []), some (.iadd, 1, 0, 0, 0, 0, []), some (.iaload, 1, 0, 0, 0, 0, []), some (.aload_n 0, 1, 0, 0, 0, 0, []), some (.iload_n 3, 1, 0, 0, 0, 0, []), some (.iconst 2, 1, 0, 0, 2, 0, []), some (.iadd, 1, 0, 0, 0, 0, []), some (.iaload, 1, 0, 0, 0, 0, []), some (.invokevirtual 93, 3, 202, 2, 0, 0, [(0, 231)]), none, none, some (.pop, 1, 0, 0, 0, 0, [])]
set_option maxRecDepth 100000 in
def cdL12 : Cd := [some (.goto 850, 3, 1714, 0, 0, 0, []), none, none, some (.aload_n 1, 1, 0, 0, 0, 0, []), some (.aload_n 0, 1, 0, 0, 0, 0, []), some (.iload_n 3, 1, 0, 0, 0, 0, []), some (.iconst 1, 1, 0, 0, 1, 0, []), some (.iadd, 1, 0, 0, 0, 0, []), some (.iaload, 1, 0, 0, 0, 0, []), some (.invokevirtual 94, 3, 125, 1, 0, 0, [(0, 70)]), none, none, some (.pop, 1, 0, 0, 0, 0, []), some (.aload_n 2, 1, 0, 0, 0, 0, []), some (.aload_n 0, 1, 0, 0, 0, 0, []), some (.iload_n 3, 1, 0, 0, 0, 0, []), some (.iconst 1, 1, 0, 0, 1, 0, []), some (.iadd, 1, 0, 0, 0, 0, []), some (.iaload, 1, 0, 0, 0, 0, []), some (.invokevirtual 97, 3, 203, 1, 0, 0, [(0, 232)]), none, none, some (.pop, 1, 0, 0, 0, 0, []), some (.goto 827, 3, 1714, 0, 0, 0, []), none, none, some (.aload_n 1, 1, 0, 0, 0, 0, []), some (.aload_n 0, 1, 0, 0, 0, 0, []), some (.iload_n 3, 1, 0, 0, 0, 0, []), some (.iconst 1, 1, 0, 0, 1, 0, []), some (.iadd, 1, 0, 0, 0, 0, []), some (.iaload, 1, 0, 0, 0, 0, []), some (.invokevirtual 98, 3, 126, 1, 0, 0, [(0, 71)]), none, none, some (.pop, 1, 0, 0, 0, 0, []), some (.aload_n 2, 1, 0, 0, 0, 0, []), some (.aload_n 0, 1, 0, 0, 0, 0, []), some (.iload_n 3, 1, 0, 0, 0, 0, []), some (.iconst 1, 1, 0, 0, 1, 0, []), some (.iadd, 1, 0, 0, 0, 0, []), some (.iaload, 1, 0, 0, 0, 0, []), some (.invokevirtual 101, 3, 204, 1, 0, 0, [(0, 233)]), none, none, some (.pop, 1, 0, 0, 0, 0, []), some (.goto 804, 3, 1714, 0, 0, 0, []), none, none, some (.aload_n 1, 1, 0, 0, 0, 0, []), some (.aload_n 0, 1, 0, 0, 0, 0, []), some (.iload_n 3, 1, 0, 0, 0, 0, []), some (.iconst 1, 1, 0, 0, 1, 0, []), some (.iadd, 1, 0, 0, 0, 0, []), some (.iaload, 1, 0, 0, 0, 0, []), some (.invokevirtual 102, 3, 127, 1, 0, 0, [(0, 72)]), none, none, some (.pop, 1, 0, 0, 0, 0, []), some (.aload_n 2, 1, 0, 0, 0, 0, []), some (.aload_n 0, 1, 0, 0, 0, 0, []), some (.iload_n 3, 1, 0, 0, 0, 0, []), some (.iconst 1, 1, 0, 0, 1, 0, []), some (.iadd, 1, 0, 0, 0, 0, []), some (.iaload, 1, 0, 0, 0, 0, []), some (.invokevirtual 105, 3, 206, 1, 0, 0, [(0, 234)]), none, none, some (.pop, 1, 0, 0, 0, 0, []), some (.goto 781, 3, 1714, 0, 0, 0, []), none, none]
set_option maxRecDepth 100000 in
def cdL13 : Cd := [some (.aload_n 1, 1, 0, 0, 0, 0, []), some (.aload_n 0, 1, 0, 0, 0, 0, []), some (.iload_n 3, 1, 0, 0, 0, 0, []), some (.iconst 1, 1, 0, 0, 1, 0, []), some (.iadd, 1, 0, 0, 0, 0, []), some (.iaload, 1, 0, 0, 0, 0, []), some (.aload_n 0, 1, 0, 0, 0, 0, []), some (.iload_n 3, 1, 0, 0, 0, 0, []), some (.iconst 2, 1, 0, 0, 2, 0, []), some (.iadd, 1, 0, 0, 0, 0, []), some (.iaload, 1, 0, 0, 0, 0, []), some (.aload_n 0, 1, 0, 0, 0, 0, []), some (.iload_n 3, 1, 0, 0, 0, 0, []), some (.iconst 3, 1, 0, 0, 3, 0, []), some (.iadd, 1, 0, 0, 0, 0, []), some (.iaload, 1, 0, 0, 0, 0, []), some (.invokevirtual 106, 3, 128, 3, 0, 0, [(0, 82)]), none, none, some (.pop, 1, 0, 0, 0, 0, []), some (.aload_n 2, 1, 0, 0, 0, 0, []), some (.aload_n 0, 1, 0, 0, 0, 0, []), some (.iload_n 3, 1, 0, 0, 0, 0, []), some (.iconst 1, 1, 0, 0, 1, 0, []), some (.iadd, 1, 0, 0, 0, 0, []), some (.iaload, 1, 0, 0, 0, 0, []), some (.aload_n 0, 1, 0, 0, 0, 0, []), some (.iload_n 3, 1, 0, 0, 0, 0, []), some (.iconst 2, 1, 0, 0, 2, 0, []), some (.iadd, 1, 0, 0, 0, 0, []), some (.iaload, 1, 0, 0, 0, 0, []), some (.aload_n 0, 1, 0, 0, 0, 0, []), some (.iload_n 3, 1, 0, 0, 0, 0, []), some (.iconst 3, 1, 0, 0, 3, 0, []), some (.iadd, 1, 0, 0, 0, 0, []), some (.iaload, 1, 0, 0, 0, 0, []), some (.invokevirtual 109, 3, 207, 3, 0, 0, [(0, 236)]), none, none, some (.pop, 1, 0, 0, 0, 0, []), some (.goto 738, 3, 1714, 0, 0, 0, []), none, none, some (.aload_n 1, 1, 0, 0, 0, 0, []), some (.aload_n 0, 1, 0, 0, 0, 0, []), some (.iload_n 3, 1, 0, 0, 0, 0, []), some (.iconst 1, 1, 0, 0, 1, 0, []), some (.iadd, 1, 0, 0, 0, 0, []), some (.iaload, 1, 0, 0, 0, 0, []), some (.invokevirtual 110, 3, 129, 1, 0, 0, [(0, 86)]), none, none, some (.pop, 1, 0, 0, 0, 0, []), some (.aload_n 2, 1, 0, 0, 0, 0, []), some (.aload_n 0, 1, 0, 0, 0, 0, []), some (.iload_n 3, 1, 0, 0, 0, 0, []), some (.iconst 1, 1, 0, 0, 1, 0, []), some (.iadd, 1, 0, 0, 0, 0, []), some (.iaload, 1, 0, 0, 0, 0, []), some (.invokevirtual 113, 3, 208, 1, 0, 0, [(0, 237)]), none, none, some (.pop, 1, 0, 0, 0, 0, []), some (.goto 715, 3, 1714, 0, 0, 0, []), none, none, some (.aload_n 1, 1, 0, 0, 0, 0, []), some (.aload_n 0, 1, 0, 0, 0, 0, []), some (.iload_n 3, 1, 0, 0, 0, 0, []), some (.iconst 1, 1, 0, 0, 1, 0, []), some (.iadd, 1, 0, 0, 0, 0, []), some (.iaload, 1, 0, 0, 0, 0, [])]
set_option maxRecDepth 100000 in
def cdL14 : Cd := [some (.invokevirtual 114, 3, 130, 1, 0, 0, [(0, 88)]), none, none, some (.pop, 1, 0, 0, 0, 0, []), some (.aload_n 2, 1, 0, 0, 0, 0, []), some (.aload_n 0, 1, 0, 0, 0, 0, []), some (.iload_n 3, 1, 0, 0, 0, 0, []), some (.iconst 1, 1, 0, 0, 1, 0, []), some (.iadd, 1, 0, 0, 0, 0, []), some (.iaload, 1, 0, 0, 0, 0, []), some (.invokevirtual 117, 3, 225, 1, 0, 0, [(0, 238)]), none, none, some (.pop, 1, 0, 0, 0, 0, []), some (.goto 692, 3, 1714, 0, 0, 0, []), none, none, some (.aload_n 1, 1, 0, 0, 0, 0, []), some (.aload_n 0, 1, 0, 0, 0, 0, []), some (.iload_n 3, 1, 0, 0, 0, 0, []), some (.iconst 1, 1, 0, 0, 1, 0, []), some (.iadd, 1, 0, 0, 0, 0, []), some (.iaload, 1, 0, 0, 0, 0, []), some (.aload_n 0, 1, 0, 0, 0, 0, []), some (.iload_n 3, 1, 0, 0, 0, 0, []), some (.iconst 2, 1, 0, 0, 2, 0, []), some (.iadd, 1, 0, 0, 0, 0, []), some (.iaload, 1, 0, 0, 0, 0, []), some (.invokevirtual 118, 3, 131, 2, 0, 0, [(0, 119)]), none, none, some (.pop, 1, 0, 0, 0, 0, []), some (.aload_n 2, 1, 0, 0, 0, 0, []), some (.aload_n 0, 1, 0, 0, 0, 0, []), some (.iload_n 3, 1, 0, 0, 0, 0, []), some (.iconst 1, 1, 0, 0, 1, 0, []), some (.iadd, 1, 0, 0, 0, 0, []), some (.iaload, 1, 0, 0, 0, 0, []), some (.aload_n 0, 1, 0, 0, 0, 0, []), some (.iload_n 3, 1, 0, 0, 0, 0, []), some (.iconst 2, 1, 0, 0, 2, 0, []), some (.iadd, 1, 0, 0, 0, 0, []), some (.iaload, 1, 0, 0, 0, 0, []), some (.invokevirtual 121, 3, 226, 2, 0, 0, [(0, 256)]), none, none, some (.pop, 1, 0, 0, 0, 0, []), some (.goto 659, 3, 1714, 0, 0, 0, []), none, none, some (.aload_n 1, 1, 0, 0, 0, 0, []), some (.aload_n 0, 1, 0, 0, 0, 0, []), some (.iload_n 3, 1, 0, 0, 0, 0, []), some (.iconst 1, 1, 0, 0, 1, 0, []), some (.iadd, 1, 0, 0, 0, 0, []), some (.iaload, 1, 0, 0, 0, 0, []), some (.invokevirtual 122, 3, 132, 1, 0, 0, [(0, 120)]), none, none, some (.pop, 1, 0, 0, 0, 0, []), some (.aload_n 2, 1, 0, 0, 0, 0, []), some (.aload_n 0, 1, 0, 0, 0, 0, []), some (.iload_n 3, 1, 0, 0, 0, 0, []), some (.iconst 1, 1, 0, 0, 1, 0, []), some (.iadd, 1, 0, 0, 0, 0, []), some (.iaload, 1, 0, 0, 0, 0, []), some (.invokevirtual 125, 3, 228, 1, 0, 0, [(0, 258)]), none, none, some (.pop, 1, 0, 0, 0, 0, []), some (.goto 636, 3, 1714, 0, 0, 0, []), none]
set_option maxRecDepth 100000 in
def cdL15 : Cd := [none, some (.aload_n 1, 1, 0, 0, 0, 0, []), some (.aload_n 0, 1, 0, 0, 0, 0, []), some (.iload_n 3, 1, 0, 0, 0, 0, []), some (.iconst 1, 1, 0, 0, 1, 0, []), some (.iadd, 1, 0, 0, 0, 0, []), some (.iaload, 1, 0, 0, 0, 0, []), some (.aload_n 0, 1, 0, 0, 0, 0, []), some (.iload_n 3, 1, 0, 0, 0, 0, []), some (.iconst 2, 1, 0, 0, 2, 0, []), some (.iadd, 1, 0, 0, 0, 0, []), some (.iaload, 1, 0, 0, 0, 0, []), some (.aload_n 0, 1, 0, 0, 0, 0, []), some (.iload_n 3, 1, 0, 0, 0, 0, []), some (.iconst 3, 1, 0, 0, 3, 0, []), some (.iadd, 1, 0, 0, 0, 0, []), some (.iaload, 1, 0, 0, 0, 0, []), some (.aload_n 0, 1, 0, 0, 0, 0, []), some (.iload_n 3, 1, 0, 0, 0, 0, []), some (.iconst 4, 1, 0, 0, 4, 0, []), some (.iadd, 1, 0, 0, 0, 0, []), some (.iaload, 1, 0, 0, 0, 0, []), some (.invokevirtual 126, 3, 133, 4, 0, 0, [(0, 122)]), none, none, some (.pop, 1, 0, 0, 0, 0, []), some (.aload_n 2, 1, 0, 0, 0, 0, []), some (.aload_n 0, 1, 0, 0, 0, 0, []), some (.iload_n 3, 1, 0, 0, 0, 0, []), some (.iconst 1, 1, 0, 0, 1, 0, []), some (.iadd, 1, 0, 0, 0, 0, []), some (.iaload, 1, 0, 0, 0, 0, []), some (.aload_n 0, 1, 0, 0, 0, 0, []), some (.iload_n 3, 1, 0, 0, 0, 0, []), some (.iconst 2, 1, 0, 0, 2, 0, []), some (.iadd, 1, 0, 0, 0, 0, []), some (.iaload, 1, 0, 0, 0, 0, []), some (.aload_n 0, 1, 0, 0, 0, 0, []), some (.iload_n 3, 1, 0, 0, 0, 0, []), some (.iconst 3, 1, 0, 0, 3, 0, []), some (.iadd, 1, 0, 0, 0, 0, []), some (.iaload, 1, 0, 0, 0, 0, []), some (.aload_n 0, 1, 0, 0, 0, 0, []), some (.iload_n 3, 1, 0, 0, 0, 0, []), some (.iconst 4, 1, 0, 0, 4, 0, []), some (.iadd, 1, 0, 0, 0, 0, []), some (.iaload, 1, 0, 0, 0, 0, []), some (.invokevirtual 129, 3, 232, 4, 0, 0, [(0, 260)]), none, none, some (.pop, 1, 0, 0, 0, 0, []), some (.goto 583, 3, 1714, 0, 0, 0, []), none, none, some (.aload_n 1, 1, 0, 0, 0, 0, []), some (.aload_n 0, 1, 0, 0, 0, 0, []), some (.iload_n 3, 1, 0, 0, 0, 0, []), some (.iconst 1, 1, 0, 0, 1, 0, []), some (.iadd, 1, 0, 0, 0, 0, []), some (.iaload, 1, 0, 0, 0, 0, []), some (.invokevirtual 130, 3, 134, 1, 0, 0, [(0, 132)]), none, none, some (.pop, 1, 0, 0, 0, 0, []), some (.aload_n 2, 1, 0, 0, 0, 0, []), some (.aload_n 0, 1, 0, 0, 0, 0, []), some (.iload_n 3, 1, 0, 0, 0, 0, []), some (.iconst 1, 1, 0, 0, 1, 0, []), some (.iadd, 1, 0, 0, 0, 0, []), some (.iaload, 1, 0, 0, 0, 0, []), some (.invokevirtual 133, 3, 234, 1, 0, 0, [(0, 265)]), none]
set_option maxRecDepth 100000 in
def cdL16 : Cd := [none, some (.pop, 1, 0, 0, 0, 0, []), some (.goto 560, 3, 1714, 0, 0, 0, []), none, none, some (.aload_n 1, 1, 0, 0, 0, 0, []), some (.aload_n 0, 1, 0, 0, 0, 0, []), some (.iload_n 3, 1, 0, 0, 0, 0, []), some (.iconst 1, 1, 0, 0, 1, 0, []), some (.iadd, 1, 0, 0, 0, 0, []), some (.iaload, 1, 0, 0, 0, 0, []), some (.aload_n 0, 1, 0, 0, 0, 0, []), some (.iload_n 3, 1, 0, 0, 0, 0, []), some (.iconst 2, 1, 0, 0, 2, 0, []), some (.iadd, 1, 0, 0, 0, 0, []), some (.iaload, 1, 0, 0, 0, 0, []), some (.invokevirtual 134, 3, 135, 2, 0, 0, [(0, 136)]), none, none, some (.pop, 1, 0, 0, 0, 0, []), some (.aload_n 2, 1, 0, 0, 0, 0, []), some (.aload_n 0, 1, 0, 0, 0, 0, []), some (.iload_n 3, 1, 0, 0, 0, 0, []), some (.iconst 1, 1, 0, 0, 1, 0, []), some (.iadd, 1, 0, 0, 0, 0, []), some (.iaload, 1, 0, 0, 0, 0, []), some (.aload_n 0, 1, 0, 0, 0, 0, []), some (.iload_n 3, 1, 0, 0, 0, 0, []), some (.iconst 2, 1, 0, 0, 2, 0, []), some (.iadd, 1, 0, 0, 0, 0, []), some (.iaload, 1, 0, 0, 0, 0, []), some (.invokevirtual 137, 3, 235, 2, 0, 0, [(0, 268)]), none, none, some (.pop, 1, 0, 0, 0, 0, []), some (.goto 527, 3, 1714, 0, 0, 0, []), none, none, some (.aload_n 1, 1, 0, 0, 0, 0, []), some (.aload_n 0, 1, 0, 0, 0, 0, []), some (.iload_n 3, 1, 0, 0, 0, 0, []), some (.iconst 1, 1, 0, 0, 1, 0, []), some (.iadd, 1, 0, 0, 0, 0, []), some (.iaload, 1, 0, 0, 0, 0, []), some (.invokevirtual 138, 3, 136, 1, 0, 0, [(0, 137)]), none, none, some (.pop, 1, 0, 0, 0, 0, []), some (.aload_n 2, 1, 0, 0, 0, 0, []), some (.aload_n 0, 1, 0, 0, 0, 0, []), some (.iload_n 3, 1, 0, 0, 0, 0, []), some (.iconst 1, 1, 0, 0, 1, 0, []), some (.iadd, 1, 0, 0, 0, 0, []), some (.iaload, 1, 0, 0, 0, 0, []), some (.invokevirtual 141, 3, 237, 1, 0, 0, [(0, 269)]), none, none, some (.pop, 1, 0, 0, 0, 0, []), some (.goto 504, 3, 1714, 0, 0, 0, []), none, none, some (.aload_n 1, 1, 0, 0, 0, 0, []), some (.aload_n 0, 1, 0, 0, 0, 0, []), some (.iload_n 3, 1, 0, 0, 0, 0, []), some (.iconst 1, 1, 0, 0, 1, 0, []), some (.iadd, 1, 0, 0, 0, 0, []), some (.iaload, 1, 0, 0, 0, 0, []), some (.aload_n 0, 1, 0, 0, 0, 0, []), some (.iload_n 3, 1, 0, 0, 0, 0, []), some (.iconst 2, 1, 0, 0, 2, 0, []), some (.iadd, 1, 0, 0, 0, 0, []), some (.iaload, 1, 0, 0, 0, 0, [])]
set_option maxRecDepth 100000 in
def cdL17 : Cd := [some (.invokevirtual 142, 3, 137, 2, 0, 0, [(0, 141)]), none, none, some (.pop, 1, 0, 0, 0, 0, []), some (.aload_n 2, 1, 0, 0, 0, 0, []), some (.aload_n 0, 1, 0, 0, 0, 0, []), some (.iload_n 3, 1, 0, 0, 0, 0, []), some (.iconst 1, 1, 0, 0, 1, 0, []), some (.iadd, 1, 0, 0, 0, 0, []), some (.iaload, 1, 0, 0, 0, 0, []), some (.aload_n 0, 1, 0, 0, 0, 0, []), some (.iload_n 3, 1, 0, 0, 0, 0, []), some (.iconst 2, 1, 0, 0, 2, 0, []), some (.iadd, 1, 0, 0, 0, 0, []), some (.iaload, 1, 0, 0, 0, 0, []), some (.invokevirtual 145, 3, 238, 2, 0, 0, [(0, 272)]), none, none, some (.pop, 1, 0, 0, 0, 0, []), some (.goto 471, 3, 1714, 0, 0, 0, []), none, none, some (.aload_n 1, 1, 0, 0, 0, 0, []), some (.aload_n 0, 1, 0, 0, 0, 0, []), some (.iload_n 3, 1, 0, 0, 0, 0, []), some (.iconst 1, 1, 0, 0, 1, 0, []), some (.iadd, 1, 0, 0, 0, 0, []), some (.iaload, 1, 0, 0, 0, 0, []), some (.invokevirtual 146, 3, 139, 1, 0, 0, [(0, 142)]), none, none, some (.pop, 1, 0, 0, 0, 0, []), some (.aload_n 2, 1, 0, 0, 0, 0, []), some (.aload_n 0, 1, 0, 0, 0, 0, []), some (.iload_n 3, 1, 0, 0, 0, 0, []), some (.iconst 1, 1, 0, 0, 1, 0, []), some (.iadd, 1, 0, 0, 0, 0, []), some (.iaload, 1, 0, 0, 0, 0, []), some (.invokevirtual 149, 3, 240, 1, 0, 0, [(0, 273)]), none, none, some (.pop, 1, 0, 0, 0, 0, []), some (.goto 448, 3, 1714, 0, 0, 0, []), none, none, some (.aload_n 1, 1, 0, 0, 0, 0, []), some (.aload_n 0, 1, 0, 0, 0, 0, []), some (.iload_n 3, 1, 0, 0, 0, 0, []), some (.iconst 1, 1, 0, 0, 1, 0, []), some (.iadd, 1, 0, 0, 0, 0, []), some (.iaload, 1, 0, 0, 0, 0, []), some (.aload_n 0, 1, 0, 0, 0, 0, []), some (.iload_n 3, 1, 0, 0, 0, 0, []), some (.iconst 2, 1, 0, 0, 2, 0, []), some (.iadd, 1, 0, 0, 0, 0, []), some (.iaload, 1, 0, 0, 0, 0, []), some (.invokevirtual 150, 3, 140, 2, 0, 0, [(0, 143)]), none, none, some (.pop, 1, 0, 0, 0, 0, []), some (.aload_n 2, 1, 0, 0, 0, 0, []), some (.aload_n 0, 1, 0, 0, 0, 0, []), some (.iload_n 3, 1, 0, 0, 0, 0, []), some (.iconst 1, 1, 0, 0, 1, 0, []), some (.iadd, 1, 0, 0, 0, 0, []), some (.iaload, 1, 0, 0, 0, 0, []), some (.aload_n 0, 1, 0, 0, 0, 0, []), some (.iload_n 3, 1, 0, 0, 0, 0, []), some (.iconst 2, 1, 0, 0, 2, 0, []), some (.iadd, 1, 0, 0, 0, 0, []), some (.iaload, 1, 0, 0, 0, 0, []), some (.invokevirtual 153, 3, 241, 2, 0, 0, [(0, 275)])]
set_option maxRecDepth 100000 in
def cdL18 : Cd := [none, none, some (.pop, 1, 0, 0, 0, 0, []), some (.goto 415, 3, 1714, 0, 0, 0, []), none, none, some (.aload_n 1, 1, 0, 0, 0, 0, []), some (.aload_n 0, 1, 0, 0, 0, 0, []), some (.iload_n 3, 1, 0, 0, 0, 0, []), some (.iconst 1, 1, 0, 0, 1, 0, []), some (.iadd, 1, 0, 0, 0, 0, []), some (.iaload, 1, 0, 0, 0, 0, []), some (.aload_n 0, 1, 0, 0, 0, 0, []), some (.iload_n 3, 1, 0, 0, 0, 0, []), some (.iconst 2, 1, 0, 0, 2, 0, []), some (.iadd, 1, 0, 0, 0, 0, []), some (.iaload, 1, 0, 0, 0, 0, []), some (.invokevirtual 154, 3, 141, 2, 0, 0, [(0, 144)]), none, none, some (.pop, 1, 0, 0, 0, 0, []), some (.aload_n 2, 1, 0, 0, 0, 0, []), some (.aload_n 0, 1, 0, 0, 0, 0, []), some (.iload_n 3, 1, 0, 0, 0, 0, []), some (.iconst 1, 1, 0, 0, 1, 0, []), some (.iadd, 1, 0, 0, 0, 0, []), some (.iaload, 1, 0, 0, 0, 0, []), some (.aload_n 0, 1, 0, 0, 0, 0, []), some (.iload_n 3, 1, 0, 0, 0, 0, []), some (.iconst 2, 1, 0, 0, 2, 0, []), some (.iadd, 1, 0, 0, 0, 0, []), some (.iaload, 1, 0, 0, 0, 0, []), some (.invokevirtual 157, 3, 243, 2, 0, 0, [(0, 276)]), none, none, some (.pop, 1, 0, 0, 0, 0, []), some (.goto 382, 3, 1714, 0, 0, 0, []), none, none, some (.aload_n 1, 1, 0, 0, 0, 0, []), some (.aload_n 0, 1, 0, 0, 0, 0, []), some (.iload_n 3, 1, 0, 0, 0, 0, []), some (.iconst 1, 1, 0, 0, 1, 0, []), some (.iadd, 1, 0, 0, 0, 0, []), some (.iaload, 1, 0, 0, 0, 0, []), some (.invokevirtual 158, 3, 142, 1, 0, 0, [(0, 147)]), none, none, some (.pop, 1, 0, 0, 0, 0, []), some (.aload_n 2, 1, 0, 0, 0, 0, []), some (.aload_n 0, 1, 0, 0, 0, 0, []), some (.iload_n 3, 1, 0, 0, 0, 0, []), some (.iconst 1, 1, 0, 0, 1, 0, []), some (.iadd, 1, 0, 0, 0, 0, []), some (.iaload, 1, 0, 0, 0, 0, []), some (.invokevirtual 161, 3, 248, 1, 0, 0, [(0, 278)]), none, none, some (.pop, 1, 0, 0, 0, 0, []), some (.goto 359, 3, 1714, 0, 0, 0, []), none, none, some (.aload_n 1, 1, 0, 0, 0, 0, []), some (.aload_n 0, 1, 0, 0, 0, 0, []), some (.iload_n 3, 1, 0, 0, 0, 0, []), some (.iconst 1, 1, 0, 0, 1, 0, []), some (.iadd, 1, 0, 0, 0, 0, []), some (.iaload, 1, 0, 0, 0, 0, []), some (.invokevirtual 162, 3, 143, 1, 0, 0, [(0, 164)]), none, none, some (.pop, 1, 0, 0, 0, 0, [])]
set_option maxRecDepth 100000 in
def cdL19 : Cd := [some (.aload_n 2, 1, 0, 0, 0, 0, []), some (.aload_n 0, 1, 0, 0, 0, 0, []), some (.iload_n 3, 1, 0, 0, 0, 0, []), some (.iconst 1, 1, 0, 0, 1, 0, []), some (.iadd, 1, 0, 0, 0, 0, []), some (.iaload, 1, 0, 0, 0, 0, []), some (.invokevirtual 165, 3, 249, 1, 0, 0, [(0, 283)]), none, none, some (.pop, 1, 0, 0, 0, 0, []), some (.goto 336, 3, 1714, 0, 0, 0, []), none, none, some (.aload_n 1, 1, 0, 0, 0, 0, []), some (.aload_n 0, 1, 0, 0, 0, 0, []), some (.iload_n 3, 1, 0, 0, 0, 0, []), some (.iconst 1, 1, 0, 0, 1, 0, []), some (.iadd, 1, 0, 0, 0, 0, []), some (.iaload, 1, 0, 0, 0, 0, []), some (.invokevirtual 166, 3, 144, 1, 0, 0, [(0, 165)]), none, none, some (.pop, 1, 0, 0, 0, 0, []), some (.aload_n 2, 1, 0, 0, 0, 0, []), some (.aload_n 0, 1, 0, 0, 0, 0, []), some (.iload_n 3, 1, 0, 0, 0, 0, []), some (.iconst 1, 1, 0, 0, 1, 0, []), some (.iadd, 1, 0, 0, 0, 0, []), some (.iaload, 1, 0, 0, 0, 0, []), some (.invokevirtual 169, 3, 250, 1, 0, 0, [(0, 284)]), none, none, some (.pop, 1, 0, 0, 0, 0, []), some (.goto 313, 3, 1714, 0, 0, 0, []), none, none, some (.aload_n 1, 1, 0, 0, 0, 0, []), some (.aload_n 0, 1, 0, 0, 0, 0, []), some (.iload_n 3, 1, 0, 0, 0, 0, []), some (.iconst 1, 1, 0, 0, 1, 0, []), some (.iadd, 1, 0, 0, 0, 0, []), some (.iaload, 1, 0, 0, 0, 0, []), some (.aload_n 0, 1, 0, 0, 0, 0, []), some (.iload_n 3, 1, 0, 0, 0, 0, []), some (.iconst 2, 1, 0, 0, 2, 0, []), some (.iadd, 1, 0, 0, 0, 0, []), some (.iaload, 1, 0, 0, 0, 0, []), some (.aload_n 0, 1, 0, 0, 0, 0, []), some (.iload_n 3, 1, 0, 0, 0, 0, []), some (.iconst 3, 1, 0, 0, 3, 0, []), some (.iadd, 1, 0, 0, 0, 0, []), some (.iaload, 1, 0, 0, 0, 0, []), some (.invokevirtual 170, 3, 145, 3, 0, 0, [(0, 168)]), none, none, some (.aload_n 2, 1, 0, 0, 0, 0, []), some (.aload_n 0, 1, 0, 0, 0, 0, []), some (.iload_n 3, 1, 0, 0, 0, 0, []), some (.iconst 1, 1, 0, 0, 1, 0, []), some (.iadd, 1, 0, 0, 0, 0, []), some (.iaload, 1, 0, 0, 0, 0, []), some (.aload_n 0, 1, 0, 0, 0, 0, []), some (.iload_n 3, 1, 0, 0, 0, 0, []), some (.iconst 2, 1, 0, 0, 2, 0, []), some (.iadd, 1, 0, 0, 0, 0, []), some (.iaload, 1, 0, 0, 0, 0, []), some (.aload_n 0, 1, 0, 0, 0, 0, []), some (.iload_n 3, 1, 0, 0, 0, 0, []), some (.iconst 3, 1, 0, 0, 3, 0, []), some (.iadd, 1, 0, 0, 0, 0, []), some (.iaload, 1, 0, 0, 0, 0, []), some (.invokevirtual 173, 3, 253, 3, 0, 0, [(0, 285)])]
set_option maxRecDepth 100000 in
def cdL20 : Cd := [none, none, some (.if_icmp .eq 272, 3, 1714, 0, 0, 0, []), none, none, some (.iconst 0, 1, 0, 0, 0, 0, []), some (.ireturn, 1, 0, 0, 0, 0, []), some (.aload_n 1, 1, 0, 0, 0, 0, []), some (.aload_n 0, 1, 0, 0, 0, 0, []), some (.iload_n 3, 1, 0, 0, 0, 0, []), some (.iconst 1, 1, 0, 0, 1, 0, []), some (.iadd, 1, 0, 0, 0, 0, []), some (.iaload, 1, 0, 0, 0, 0, []), some (.aload_n 0, 1, 0, 0, 0, 0, []), some (.iload_n 3, 1, 0, 0, 0, 0, []), some (.iconst 2, 1, 0, 0, 2, 0, []), some (.iadd, 1, 0, 0, 0, 0, []), some (.iaload, 1, 0, 0, 0, 0, []), some (.aload_n 0, 1, 0, 0, 0, 0, []), some (.iload_n 3, 1, 0, 0, 0, 0, []), some (.iconst 3, 1, 0, 0, 3, 0, []), some (.iadd, 1, 0, 0, 0, 0, []), some (.iaload, 1, 0, 0, 0, 0, []), some (.invokevirtual 174, 3, 146, 3, 0, 0, [(0, 171)]), none, none, some (.pop, 1, 0, 0, 0, 0, []), some (.aload_n 2, 1, 0, 0, 0, 0, []), some (.aload_n 0, 1, 0, 0, 0, 0, []), some (.iload_n 3, 1, 0, 0, 0, 0, []), some (.iconst 1, 1, 0, 0, 1, 0, []), some (.iadd, 1, 0, 0, 0, 0, []), some (.iaload, 1, 0, 0, 0, 0, []), some (.aload_n 0, 1, 0, 0, 0, 0, []), some (.iload_n 3, 1, 0, 0, 0, 0, []), some (.iconst 2, 1, 0, 0, 2, 0, []), some (.iadd, 1, 0, 0, 0, 0, []), some (.iaload, 1, 0, 0, 0, 0, []), some (.aload_n 0, 1, 0, 0, 0, 0, []), some (.iload_n 3, 1, 0, 0, 0, 0, []), some (.iconst 3, 1, 0, 0, 3, 0, []), some (.iadd, 1, 0, 0, 0, 0, []), some (.iaload, 1, 0, 0, 0, 0, []), some (.invokevirtual 177, 3, 255, 3, 0, 0, [(0, 287)]), none, none, some (.pop, 1, 0, 0, 0, 0, []), some (.goto 227, 3, 1714, 0, 0, 0, []), none, none, some (.aload_n 1, 1, 0, 0, 0, 0, []), some (.aload_n 0, 1, 0, 0, 0, 0, []), some (.iload_n 3, 1, 0, 0, 0, 0, []), some (.iconst 1, 1, 0, 0, 1, 0, []), some (.iadd, 1, 0, 0, 0, 0, []), some (.iaload, 1, 0, 0, 0, 0, []), some (.aload_n 0, 1, 0, 0, 0, 0, []), some (.iload_n 3, 1, 0, 0, 0, 0, []), some (.iconst 2, 1, 0, 0, 2, 0, []), some (.iadd, 1, 0, 0, 0, 0, []), some (.iaload, 1, 0, 0, 0, 0, []), some (.aload_n 0, 1, 0, 0, 0, 0, []), some (.iload_n 3, 1, 0, 0, 0, 0, []), some (.iconst 3, 1, 0, 0, 3, 0, []), some (.iadd, 1, 0, 0, 0, 0, []), some (.iaload, 1, 0, 0, 0, 0, []), some (.invokevirtual 178, 3, 147, 3, 0, 0, [(0, 175)]), none, none, some (.pop, 1, 0, 0, 0, 0, []), some (.aload_n 2, 1, 0, 0, 0, 0, []), some (.aload_n 0, 1, 0, 0, 0, 0, [])]
set_option maxRecDepth 100000 in
def cdL21 : Cd := [some (.iload_n 3, 1, 0, 0, 0, 0, []), some (.iconst 1, 1, 0, 0, 1, 0, []), some (.iadd, 1, 0, 0, 0, 0, []), some (.iaload, 1, 0, 0, 0, 0, []), some (.aload_n 0, 1, 0, 0, 0, 0, []), some (.iload_n 3, 1, 0, 0, 0, 0, []), some (.iconst 2, 1, 0, 0, 2, 0, []), some (.iadd, 1, 0, 0, 0, 0, []), some (.iaload, 1, 0, 0, 0, 0, []), some (.aload_n 0, 1, 0, 0, 0, 0, []), some (.iload_n 3, 1, 0, 0, 0, 0, []), some (.iconst 3, 1, 0, 0, 3, 0, []), some (.iadd, 1, 0, 0, 0, 0, []), some (.iaload, 1, 0, 0, 0, 0, []), some (.invokevirtual 181, 3, 256, 3, 0, 0, [(0, 290)]), none, none, some (.pop, 1, 0, 0, 0, 0, []), some (.goto 184, 3, 1714, 0, 0, 0, []), none, none, some (.aload_n 1, 1, 0, 0, 0, 0, []), some (.aload_n 0, 1, 0, 0, 0, 0, []), some (.iload_n 3, 1, 0, 0, 0, 0, []), some (.iconst 1, 1, 0, 0, 1, 0, []), some (.iadd, 1, 0, 0, 0, 0, []), some (.iaload, 1, 0, 0, 0, 0, []), some (.aload_n 0, 1, 0, 0, 0, 0, []), some (.iload_n 3, 1, 0, 0, 0, 0, []), some (.iconst 2, 1, 0, 0, 2, 0, []), some (.iadd, 1, 0, 0, 0, 0, []), some (.iaload, 1, 0, 0, 0, 0, []), some (.aload_n 0, 1, 0, 0, 0, 0, []), some (.iload_n 3, 1, 0, 0, 0, 0, []), some (.iconst 3, 1, 0, 0, 3, 0, []), some (.iadd, 1, 0, 0, 0, 0, []), some (.iaload, 1, 0, 0, 0, 0, []), some (.aload_n 0, 1, 0, 0, 0, 0, []), some (.iload_n 3, 1, 0, 0, 0, 0, []), some (.iconst 4, 1, 0, 0, 4, 0, []), some (.iadd, 1, 0, 0, 0, 0, []), some (.iaload, 1, 0, 0, 0, 0, []), some (.aload_n 0, 1, 0, 0, 0, 0, []), some (.iload_n 3, 1, 0, 0, 0, 0, []), some (.iconst 5, 1, 0, 0, 5, 0, []), some (.iadd, 1, 0, 0, 0, 0, []), some (.iaload, 1, 0, 0, 0, 0, []), some (.invokevirtual 182, 3, 148, 5, 0, 0, [(0, 176)]), none, none, some (.pop, 1, 0, 0, 0, 0, []), some (.aload_n 2, 1, 0, 0, 0, 0, []), some (.aload_n 0, 1, 0, 0, 0, 0, []), some (.iload_n 3, 1, 0, 0, 0, 0, []), some (.iconst 1, 1, 0, 0, 1, 0, []), some (.iadd, 1, 0, 0, 0, 0, []), some (.iaload, 1, 0, 0, 0, 0, []), some (.aload_n 0, 1, 0, 0, 0, 0, []), some (.iload_n 3, 1, 0, 0, 0, 0, []), some (.iconst 2, 1, 0, 0, 2, 0, []), some (.iadd, 1, 0, 0, 0, 0, []), some (.iaload, 1, 0, 0, 0, 0, []), some (.aload_n 0, 1, 0, 0, 0, 0, []), some (.iload_n 3, 1, 0, 0, 0, 0, []), some (.iconst 3, 1, 0, 0, 3, 0, []), some (.iadd, 1, 0, 0, 0, 0, []), some (.iaload, 1, 0, 0, 0, 0, []), some (.aload_n 0, 1, 0, 0, 0, 0, []), some (.iload_n 3, 1, 0, 0, 0, 0, []), some (.iconst 4, 1, 0, 0, 4, 0, []), some (.iadd, 1, 0, 0, 0, 0, []), some (.iaload, 1, 0, 0, 0, 0, [])]
set_option maxRecDepth 100000 in
def cdL22 : Cd := [some (.aload_n 0, 1, 0, 0, 0, 0, []), some (.iload_n 3, 1, 0, 0, 0, 0, []), some (.iconst 5, 1, 0, 0, 5, 0, []), some (.iadd, 1, 0, 0, 0, 0, []), some (.iaload, 1, 0, 0, 0, 0, []), some (.invokevirtual 186, 3, 257, 5, 0, 0, [(0, 291)]), none, none, some (.pop, 1, 0, 0, 0, 0, []), some (.goto 121, 3, 1714, 0, 0, 0, []), none, none, some (.aload_n 1, 1, 0, 0, 0, 0, []), some (.aload_n 0, 1, 0, 0, 0, 0, []), some (.iload_n 3, 1, 0, 0, 0, 0, []), some (.iconst 1, 1, 0, 0, 1, 0, []), some (.iadd, 1, 0, 0, 0, 0, []), some (.iaload, 1, 0, 0, 0, 0, []), some (.invokevirtual 187, 3, 149, 1, 0, 0, [(0, 179)]), none, none, some (.pop, 1, 0, 0, 0, 0, []), some (.aload_n 2, 1, 0, 0, 0, 0, []), some (.aload_n 0, 1, 0, 0, 0, 0, []), some (.iload_n 3, 1, 0, 0, 0, 0, []), some (.iconst 1, 1, 0, 0, 1, 0, []), some (.iadd, 1, 0, 0, 0, 0, []), some (.iaload, 1, 0, 0, 0, 0, []), some (.invokevirtual 190, 3, 258, 1, 0, 0, [(0, 292)]), none, none, some (.pop, 1, 0, 0, 0, 0, []), some (.goto 98, 3, 1714, 0, 0, 0, []), none, none, some (.aload_n 1, 1, 0, 0, 0, 0, []), some (.aload_n 0, 1, 0, 0, 0, 0, []), some (.iload_n 3, 1, 0, 0, 0, 0, []), some (.iconst 1, 1, 0, 0, 1, 0, []), some (.iadd, 1, 0, 0, 0, 0, []), some (.iaload, 1, 0, 0, 0, 0, []), some (.invokevirtual 191, 3, 150, 1, 0, 0, [(0, 181)]), none, none, some (.pop, 1, 0, 0, 0, 0, []), some (.aload_n 2, 1, 0, 0, 0, 0, []), some (.aload_n 0, 1, 0, 0, 0, 0, []), some (.iload_n 3, 1, 0, 0, 0, 0, []), some (.iconst 1, 1, 0, 0, 1, 0, []), some (.iadd, 1, 0, 0, 0, 0, []), some (.iaload, 1, 0, 0, 0, 0, []), some (.invokevirtual 194, 3, 259, 1, 0, 0, [(0, 293)]), none, none, some (.pop, 1, 0, 0, 0, 0, []), some (.goto 75, 3, 1714, 0, 0, 0, []), none, none, some (.aload_n 1, 1, 0, 0, 0, 0, []), some (.aload_n 0, 1, 0, 0, 0, 0, []), some (.iload_n 3, 1, 0, 0, 0, 0, []), some (.iconst 1, 1, 0, 0, 1, 0, []), some (.iadd, 1, 0, 0, 0, 0, []), some (.iaload, 1, 0, 0, 0, 0, []), some (.invokevirtual 195, 3, 151, 1, 0, 0, [(0, 182)]), none, none, some (.pop, 1, 0, 0, 0, 0, []), some (.aload_n 2, 1, 0, 0, 0, 0, []), some (.aload_n 0, 1, 0, 0, 0, 0, []), some (.iload_n 3, 1, 0, 0, 0, 0, []), some (.iconst 1, 1, 0, 0, 1, 0, [])]
set_option maxRecDepth 100000 in
def cdL23 : Cd := [some (.iadd, 1, 0, 0, 0, 0, []), some (.iaload, 1, 0, 0, 0, 0, []), some (.invokevirtual 198, 3, 261, 1, 0, 0, [(0, 294)]), none, none, some (.pop, 1, 0, 0, 0, 0, []), some (.goto 52, 3, 1714, 0, 0, 0, []), none, none, some (.aload_n 1, 1, 0, 0, 0, 0, []), some (.invokevirtual 199, 3, 153, 0, 0, 0, [(0, 188)]), none, none, some (.pop, 1, 0, 0, 0, 0, []), some (.aload_n 2, 1, 0, 0, 0, 0, []), some (.invokevirtual 202, 3, 262, 0, 0, 0, [(0, 296)]), none, none, some (.pop, 1, 0, 0, 0, 0, []), some (.goto 39, 3, 1714, 0, 0, 0, []), none, none, some (.aload_n 1, 1, 0, 0, 0, 0, []), some (.invokevirtual 203, 3, 154, 0, 0, 0, [(0, 189)]), none, none, some (.pop, 1, 0, 0, 0, 0, []), some (.aload_n 2, 1, 0, 0, 0, 0, []), some (.invokevirtual 206, 3, 263, 0, 0, 0, [(0, 297)]), none, none, some (.pop, 1, 0, 0, 0, 0, []), some (.goto 26, 3, 1714, 0, 0, 0, []), none, none, some (.aload_n 1, 1, 0, 0, 0, 0, []), some (.aload_n 0, 1, 0, 0, 0, 0, []), some (.iload_n 3, 1, 0, 0, 0, 0, []), some (.iconst 1, 1, 0, 0, 1, 0, []), some (.iadd, 1, 0, 0, 0, 0, []), some (.iaload, 1, 0, 0, 0, 0, []), some (.invokevirtual 207, 3, 155, 1, 0, 0, [(0, 190)]), none, none, some (.pop, 1, 0, 0, 0, 0, []), some (.aload_n 2, 1, 0, 0, 0, 0, []), some (.aload_n 0, 1, 0, 0, 0, 0, []), some (.iload_n 3, 1, 0, 0, 0, 0, []), some (.iconst 1, 1, 0, 0, 1, 0, []), some (.iadd, 1, 0, 0, 0, 0, []), some (.iaload, 1, 0, 0, 0, 0, []), some (.invokevirtual 210, 3, 264, 1, 0, 0, [(0, 298)]), none, none, some (.pop, 1, 0, 0, 0, 0, []), some (.goto 3, 3, 1714, 0, 0, 0, []), none, none, some (.iinc 3 6, 3, 0, 0, 6, 0, []), none, none, some (.goto (-1699), 3, 18, 0, 0, 0, []), none, none, some (.iconst 1, 1, 0, 0, 1, 0, []), some (.ireturn, 1, 0, 0, 0, 0, [])]
def cdL : Cd := cdL0 ++ (cdL1 ++ (cdL2 ++ (cdL3 ++ (cdL4 ++ (cdL5 ++ (cdL6 ++ (cdL7 ++ (cdL8 ++ (cdL9 ++ (cdL10 ++ (cdL11 ++ (cdL12 ++ (cdL13 ++ (cdL14 ++ (cdL15 ++ (cdL16 ++ (cdL17 ++ (cdL18 ++ (cdL19 ++ (cdL20 ++ (cdL21 ++ (cdL22 ++ (cdL23)))))))))))))))))))))))
/-- the constructors, by class: the place of the return stands first among the numbers -/
def psK : List Mi := [(⟨RX0, "<init>", "(LPrisonShops$Rules;)V"⟩, prog_2_method_1_code, 2, none, 0, cdk0, (9, 1, (1, 127), (1, 126), (0, 0), (1, 7))),
  (⟨RX1, "<init>", "()V"⟩, prog_3_method_1_code, 1, none, 1, cdk1, (97, 0, (1, 159), (1, 158), (0, 0), (1, 9))),
  (⟨RX2, "<init>", "()V"⟩, prog_4_method_1_code, 1, none, 2, cdk2, (38, 0, (1, 137), (1, 136), (0, 0), (1, 8))),
  (⟨RX3, "<init>", "()V"⟩, prog_5_method_1_code, 1, none, 3, cdk3, (17, 0, (1, 110), (1, 109), (0, 0), (1, 6))),
  (⟨RX4, "<init>", "(LPrisonShops$Tape;)V"⟩, prog_6_method_1_code, 2, none, 4, cdk4, (76, 1, (1, 218), (1, 217), (0, 0), (1, 11))),
  (⟨RX5, "<init>", "()V"⟩, prog_7_method_1_code, 1, none, 5, cdk5, (15, 0, (1, 104), (1, 103), (0, 0), (1, 5))),
  (⟨RX6, "<init>", "()V"⟩, prog_8_method_1_code, 1, none, 6, cdk6, (42, 0, (2, 23), (2, 22), (0, 0), (1, 12))),
  (⟨RX7, "<init>", "()V"⟩, prog_9_method_1_code, 1, none, 7, cdk7, (87, 0, (1, 33), (1, 32), (0, 0), (1, 2))),
  (⟨RX8, "<init>", "(II)V"⟩, prog_10_method_1_code, 3, none, 8, cdk8, (42, 2, (1, 39), (1, 38), (0, 0), (1, 3))),
  (⟨RX9, "<init>", "()V"⟩, prog_11_method_1_code, 1, none, 9, cdk9, (17, 0, (1, 205), (1, 204), (0, 0), (1, 10))),
  (⟨RX10, "<init>", "()V"⟩, prog_1_method_1_code, 1, none, 10, cdk10, (140, 0, (1, 25), (1, 24), (0, 0), (1, 1))),
  (⟨RX11, "<init>", "()V"⟩, prog_13_method_1_code, 2, none, 11, cdk11, (169, 0, (5, 187), (5, 186), (0, 0), (1, 13)))]
def kcT : List (Nat × Nat × Nat × Nat × (Nat × Nat) × (Nat × Nat) × (Nat × Nat)) := [(13, 7, 10, 13, (1, 21), (1, 22), (1, 1)), (10, 9, 7, 7, (1, 29), (1, 30), (1, 2)), (7, 9, 8, 4, (1, 35), (1, 36), (1, 3)), (10, 22, 5, 1, (1, 100), (1, 101), (1, 5)), (5, 9, 3, 2, (1, 106), (1, 107), (1, 6)), (10, 29, 0, 1, (1, 123), (1, 124), (1, 7)), (10, 38, 2, 5, (1, 133), (1, 134), (1, 8)), (10, 45, 1, 13, (1, 155), (1, 156), (1, 9)), (10, 52, 9, 2, (1, 201), (1, 202), (1, 10)), (10, 59, 4, 12, (1, 214), (1, 215), (1, 11)), (4, 9, 3, 2, (1, 220), (1, 107), (1, 6)), (10, 68, 6, 3, (2, 19), (2, 20), (1, 12)), (13, 10, 11, 36, (5, 183), (5, 184), (1, 13))]
def kmT : List (Nat × Nat × Nat × Nat × Nat) := [(13, 9, 10, (1, 23)), (10, 3, 99, (1, 26)), (7, 3, 99, (1, 34)), (7, 11, 8, (1, 37)), (8, 3, 99, (1, 40)), (5, 3, 99, (1, 105)), (3, 3, 99, (1, 111)), (10, 31, 0, (1, 125)), (0, 3, 99, (1, 128)), (2, 3, 99, (1, 138)), (1, 3, 99, (1, 160)), (9, 3, 99, (1, 206)), (10, 61, 4, (1, 216)), (4, 3, 99, (1, 219)), (6, 3, 99, (2, 24)), (13, 12, 11, (5, 185)), (11, 1, 99, (5, 188))]
def nsT : List (Nat × Nat × Nat × String) := [(10, 11, 7, "PrisonShops"), (10, 24, 5, "PrisonShops"), (5, 11, 3, "PrisonShops"), (10, 40, 2, "PrisonShops"), (10, 47, 1, "PrisonShops"), (10, 54, 9, "PrisonShops"), (4, 11, 3, "PrisonShops"), (10, 70, 6, "PrisonShops")]
abbrev lbq8 : Nat × Nat := (1, 27)
abbrev lbq9 : Nat × Nat := (1, 28)
abbrev lbq10 : Nat × Nat := (1, 57)
abbrev lbq11 : Nat × Nat := (2, 35)
abbrev lbq12 : Nat × Nat := (6, 58)
abbrev lbq0 : Nat × Nat := (1, 42)
abbrev lbq1 : Nat × Nat := (2, 226)
abbrev lbq2 : Nat × Nat := (1, 4)
abbrev lbq3 : Nat × Nat := (3, 11)
abbrev lbq4 : Nat × Nat := (3, 10)
abbrev lbq5 : Nat × Nat := (1, 15)
abbrev lbq6 : Nat × Nat := (1, 43)
abbrev lbq7 : Nat × Nat := (2, 227)
def strT : List (Nat × String × Nat) := [(132, "pay", 1000), (134, "lost", 1001), (136, "victim", 1002), (138, "save", 1003), (140, "least", 1004), (142, "days", 1005), (144, "nkr", 1006), (146, "k", 1007), (148, "go", 1008), (150, "gt", 1009), (152, "g", 1010), (154, "wk", 1011)]
