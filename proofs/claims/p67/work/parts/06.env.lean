/-! What surrounds a run: the texts of the class files (those that are read sign by sign first), the JDK's statics that are read. -/
def lenJS : List Nat := [77, 65, 61, 70, 31, 5, 5, 4, 7, 5, 5, 7, 5, 6, 4, 5, 4, 4, 9, 4, 4, 4, 6, 6, 1, 6, 5, 6, 6, 5, 8]
def bytJS : List (List Int32) := [[103, 97, 116, 101, 32, 50, 32, 53, 59, 114, 101, 97, 108, 109, 32, 97, 108, 112, 32, 54, 48, 32, 51, 48, 48, 32, 101, 118, 101, 110, 59, 114, 101, 97, 108, 109, 32, 98, 97, 121, 32, 52, 48, 32, 57, 48, 32, 102, 97, 115, 116, 32, 50, 59, 114, 101, 97, 108, 109, 32, 99, 111, 98, 32, 51, 48, 32, 50, 48, 32, 115, 108, 111, 119, 32, 51, 59], [116, 114, 117, 115, 116, 32, 97, 108, 112, 32, 98, 97, 121, 59, 116, 114, 117, 115, 116, 32, 98, 97, 121, 32, 99, 111, 98, 59, 116, 114, 117, 115, 116, 32, 99, 111, 98, 32, 97, 108, 112, 59, 117, 115, 101, 114, 32, 97, 110, 110, 32, 97, 108, 112, 32, 49, 49, 32, 115, 108, 111, 119, 32, 49, 59], [117, 115, 101, 114, 32, 98, 101, 110, 32, 98, 97, 121, 32, 50, 50, 32, 102, 97, 115, 116, 32, 52, 59, 115, 101, 114, 118, 105, 99, 101, 32, 98, 114, 105, 101, 32, 98, 97, 121, 32, 51, 59, 115, 101, 114, 118, 105, 99, 101, 32, 103, 111, 97, 116, 32, 97, 108, 112, 32, 49, 59], [108, 111, 103, 105, 110, 32, 97, 110, 110, 32, 49, 49, 32, 114, 101, 110, 101, 119, 97, 98, 108, 101, 59, 114, 101, 102, 101, 114, 32, 48, 32, 98, 97, 121, 59, 112, 97, 115, 115, 32, 53, 59, 114, 101, 113, 117, 101, 115, 116, 32, 48, 32, 103, 111, 97, 116, 59, 108, 111, 103, 105, 110, 32, 98, 101, 110, 32, 50, 50, 59], [114, 101, 113, 117, 101, 115, 116, 32, 51, 32, 98, 114, 105, 101, 59, 99, 104, 101, 101, 115, 101, 32, 52, 59, 112, 97, 115, 115, 32, 49, 59], [114, 101, 97, 108, 109], [116, 114, 117, 115, 116], [117, 115, 101, 114], [115, 101, 114, 118, 105, 99, 101], [108, 111, 103, 105, 110], [114, 101, 102, 101, 114], [114, 101, 113, 117, 101, 115, 116], [114, 101, 110, 101, 119], [99, 104, 101, 101, 115, 101], [100, 114, 111, 112], [115, 119, 101, 101, 112], [112, 97, 115, 115], [103, 97, 116, 101], [114, 101, 110, 101, 119, 97, 98, 108, 101], [102, 97, 115, 116], [101, 118, 101, 110], [115, 108, 111, 119], [32, 101, 118, 101, 110, 59], [32, 102, 97, 115, 116, 32], [59], [32, 115, 108, 111, 119, 32], [103, 97, 116, 101, 32], [114, 101, 97, 108, 109, 32], [116, 114, 117, 115, 116, 32], [117, 115, 101, 114, 32], [115, 101, 114, 118, 105, 99, 101, 32]]
def nJS : Nat := 31
def RJS : List (String × Nat × String × Nat) := [(RX11, 47, "gate 2 5;realm alp 60 300 even;realm bay 40 90 fast 2;realm cob 30 20 slow 3;", 0), (RX11, 53, "trust alp bay;trust bay cob;trust cob alp;user ann alp 11 slow 1;", 1), (RX11, 55, "user ben bay 22 fast 4;service brie bay 3;service goat alp 1;", 2), (RX11, 57, "login ann 11 renewable;refer 0 bay;pass 5;request 0 goat;login ben 22;", 3), (RX11, 59, "request 3 brie;cheese 4;pass 1;", 4), (RX11, 81, "the input buffer has no room", 31), (RX11, 90, "the length is out of range", 32), (RX11, 93, "the text has an error", 33), (RX11, 180, "no such index", 34), (RX11, 278, "the offset is out of range", 35), (RX11, 219, "the number of minutes is out of range", 36), (RX11, 330, "no such ticket", 37), (RX11, 333, "no such realm", 38), (RX11, 336, "no such user", 39), (RX11, 339, "no such service", 40), (RX11, 343, "the password is out of range", 41), (RX11, 345, "refused", 42), (RX1, 45, "realm", 5), (RX1, 54, "trust", 6), (RX1, 59, "user", 7), (RX1, 64, "service", 8), (RX1, 69, "login", 9), (RX1, 74, "refer", 10), (RX1, 79, "request", 11), (RX1, 84, "renew", 12), (RX1, 89, "cheese", 13), (RX1, 94, "drop", 14), (RX1, 99, "sweep", 15), (RX1, 104, "pass", 16), (RX1, 113, "gate", 17), (RX1, 188, "renewable", 18), (RX1, 251, "fast", 19), (RX1, 253, "even", 20), (RX1, 255, "slow", 21), (RL, 38, " even;", 22), (RL, 43, " fast ", 23), (RL, 52, ";", 24), (RL, 58, " slow ", 25), (RL, 64, "gate ", 26), (RL, 72, "realm ", 27), (RL, 82, "trust ", 28), (RL, 84, "user ", 29), (RL, 89, "service ", 30)]
theorem js_RX11_47 : (RX11, 47, "gate 2 5;realm alp 60 300 even;realm bay 40 90 fast 2;realm cob 30 20 slow 3;", 0) ∈ RJS := List.mem_of_getElem? (i := 0) rfl
theorem js_RX11_53 : (RX11, 53, "trust alp bay;trust bay cob;trust cob alp;user ann alp 11 slow 1;", 1) ∈ RJS := List.mem_of_getElem? (i := 1) rfl
theorem js_RX11_55 : (RX11, 55, "user ben bay 22 fast 4;service brie bay 3;service goat alp 1;", 2) ∈ RJS := List.mem_of_getElem? (i := 2) rfl
theorem js_RX11_57 : (RX11, 57, "login ann 11 renewable;refer 0 bay;pass 5;request 0 goat;login ben 22;", 3) ∈ RJS := List.mem_of_getElem? (i := 3) rfl
theorem js_RX11_59 : (RX11, 59, "request 3 brie;cheese 4;pass 1;", 4) ∈ RJS := List.mem_of_getElem? (i := 4) rfl
theorem js_RX11_81 : (RX11, 81, "the input buffer has no room", 31) ∈ RJS := List.mem_of_getElem? (i := 5) rfl
theorem js_RX11_90 : (RX11, 90, "the length is out of range", 32) ∈ RJS := List.mem_of_getElem? (i := 6) rfl
theorem js_RX11_93 : (RX11, 93, "the text has an error", 33) ∈ RJS := List.mem_of_getElem? (i := 7) rfl
theorem js_RX11_180 : (RX11, 180, "no such index", 34) ∈ RJS := List.mem_of_getElem? (i := 8) rfl
theorem js_RX11_278 : (RX11, 278, "the offset is out of range", 35) ∈ RJS := List.mem_of_getElem? (i := 9) rfl
theorem js_RX11_219 : (RX11, 219, "the number of minutes is out of range", 36) ∈ RJS := List.mem_of_getElem? (i := 10) rfl
theorem js_RX11_330 : (RX11, 330, "no such ticket", 37) ∈ RJS := List.mem_of_getElem? (i := 11) rfl
theorem js_RX11_333 : (RX11, 333, "no such realm", 38) ∈ RJS := List.mem_of_getElem? (i := 12) rfl
theorem js_RX11_336 : (RX11, 336, "no such user", 39) ∈ RJS := List.mem_of_getElem? (i := 13) rfl
theorem js_RX11_339 : (RX11, 339, "no such service", 40) ∈ RJS := List.mem_of_getElem? (i := 14) rfl
theorem js_RX11_343 : (RX11, 343, "the password is out of range", 41) ∈ RJS := List.mem_of_getElem? (i := 15) rfl
theorem js_RX11_345 : (RX11, 345, "refused", 42) ∈ RJS := List.mem_of_getElem? (i := 16) rfl
theorem js_RX1_45 : (RX1, 45, "realm", 5) ∈ RJS := List.mem_of_getElem? (i := 17) rfl
theorem js_RX1_54 : (RX1, 54, "trust", 6) ∈ RJS := List.mem_of_getElem? (i := 18) rfl
theorem js_RX1_59 : (RX1, 59, "user", 7) ∈ RJS := List.mem_of_getElem? (i := 19) rfl
theorem js_RX1_64 : (RX1, 64, "service", 8) ∈ RJS := List.mem_of_getElem? (i := 20) rfl
theorem js_RX1_69 : (RX1, 69, "login", 9) ∈ RJS := List.mem_of_getElem? (i := 21) rfl
theorem js_RX1_74 : (RX1, 74, "refer", 10) ∈ RJS := List.mem_of_getElem? (i := 22) rfl
theorem js_RX1_79 : (RX1, 79, "request", 11) ∈ RJS := List.mem_of_getElem? (i := 23) rfl
theorem js_RX1_84 : (RX1, 84, "renew", 12) ∈ RJS := List.mem_of_getElem? (i := 24) rfl
theorem js_RX1_89 : (RX1, 89, "cheese", 13) ∈ RJS := List.mem_of_getElem? (i := 25) rfl
theorem js_RX1_94 : (RX1, 94, "drop", 14) ∈ RJS := List.mem_of_getElem? (i := 26) rfl
theorem js_RX1_99 : (RX1, 99, "sweep", 15) ∈ RJS := List.mem_of_getElem? (i := 27) rfl
theorem js_RX1_104 : (RX1, 104, "pass", 16) ∈ RJS := List.mem_of_getElem? (i := 28) rfl
theorem js_RX1_113 : (RX1, 113, "gate", 17) ∈ RJS := List.mem_of_getElem? (i := 29) rfl
theorem js_RX1_188 : (RX1, 188, "renewable", 18) ∈ RJS := List.mem_of_getElem? (i := 30) rfl
theorem js_RX1_251 : (RX1, 251, "fast", 19) ∈ RJS := List.mem_of_getElem? (i := 31) rfl
theorem js_RX1_253 : (RX1, 253, "even", 20) ∈ RJS := List.mem_of_getElem? (i := 32) rfl
theorem js_RX1_255 : (RX1, 255, "slow", 21) ∈ RJS := List.mem_of_getElem? (i := 33) rfl
theorem js_RL_38 : (RL, 38, " even;", 22) ∈ RJS := List.mem_of_getElem? (i := 34) rfl
theorem js_RL_43 : (RL, 43, " fast ", 23) ∈ RJS := List.mem_of_getElem? (i := 35) rfl
theorem js_RL_52 : (RL, 52, ";", 24) ∈ RJS := List.mem_of_getElem? (i := 36) rfl
theorem js_RL_58 : (RL, 58, " slow ", 25) ∈ RJS := List.mem_of_getElem? (i := 37) rfl
theorem js_RL_64 : (RL, 64, "gate ", 26) ∈ RJS := List.mem_of_getElem? (i := 38) rfl
theorem js_RL_72 : (RL, 72, "realm ", 27) ∈ RJS := List.mem_of_getElem? (i := 39) rfl
theorem js_RL_82 : (RL, 82, "trust ", 28) ∈ RJS := List.mem_of_getElem? (i := 40) rfl
theorem js_RL_84 : (RL, 84, "user ", 29) ∈ RJS := List.mem_of_getElem? (i := 41) rfl
theorem js_RL_89 : (RL, 89, "service ", 30) ∈ RJS := List.mem_of_getElem? (i := 42) rfl
def vU (sk sv : Nat → Nat) (A : Nat → Prop) (U : State) (H : Heap) : Prop := vk_S nJS lenJS bytJS sk sv A U H ∧ (∀ r ∈ RJS, vk_R r.1 r.2.1 r.2.2.1 (sk r.2.2.2) U) ∧ va_Z "java/lang/String" "COMPACT_STRINGS" "Z" (.int 1) A U H ∧ va_Zq "jdk/internal/util/Preconditions" "SIOOBE_FORMATTER" "Ljava/util/function/BiFunction;" A U H ∧ vx_Zq Bundle.tN "UNASSIGNED_STACK" Bundle.steD A U H ∧ vx_Zq Bundle.tN "SUPPRESSED_SENTINEL" Bundle.listD A U H
/-- a text's length, a text's sign -/
def slen (i : Nat) : Int32 := Int32.ofNat (lenJS.getD i 0)
def schv (i : Nat) (k : Nat) : Int32 := (((bytJS.getD i []).getD k 0 &&& 255).toUInt32 % 65536).toInt32
def sch (i : Nat) (k : Int32) : Option Int32 := if k < 0 ∨ lenJS.getD i 0 ≤ k.toNatClampNeg then none else some (schv i k.toNatClampNeg)
