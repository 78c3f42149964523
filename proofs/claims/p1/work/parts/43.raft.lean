/-! THE CLASS'S CONSTRUCTOR -/
def exG : Option (List AV × Mem) := exec 3000 1 0 (blk 0 0) (ini 0 [aR 10 0 32, aI 3, aI 3]) [] zM
def MGr : Mem := (exG.getD ([], zM)).2
def exOk (x : Option (List AV × Mem)) : Bool := x.any (fun r => r.1.isEmpty)
theorem ex_get2 {x : Option (List AV × Mem)} {M0 : Mem} (h : exOk x = true) : x = some ([], (x.getD ([], M0)).2) := by
  cases x with
  | none => cases h
  | some r =>
    obtain ⟨a, b⟩ := r
    cases a with
    | nil => rfl
    | cons v a => cases h
theorem exG_ok : exOk exG = true := by decide +kernel
theorem exG_eq : exG = some ([], MGr) := by
  unfold MGr
  exact ex_get2 (x := exG) (M0 := zM) exG_ok
theorem ex_shape : ∃ n, exec n 1 0 (blk 0 0) (ini 0 [aR 10 0 32, aI 3, aI 3]) [] zM = some ([], MGr) := ⟨3000, by
  have h := exG_eq
  unfold exG at h
  exact h⟩
theorem dX11_init_0 : decode cX11_init 0 = .ok (.aload_n 0, 1) := by decide +kernel
theorem dX11_init_1 : decode cX11_init 1 = .ok (.invokespecial 1, 3) := by decide +kernel
theorem dX11_init_4 : decode cX11_init 4 = .ok (.aload_n 0, 1) := by decide +kernel
theorem dX11_init_5 : decode cX11_init 5 = .ok (.new 7, 3) := by decide +kernel
theorem dX11_init_8 : decode cX11_init 8 = .ok (.dup, 1) := by decide +kernel
theorem dX11_init_9 : decode cX11_init 9 = .ok (.invokespecial 9, 3) := by decide +kernel
theorem dX11_init_12 : decode cX11_init 12 = .ok (.putfield 10, 3) := by decide +kernel
theorem dX11_init_15 : decode cX11_init 15 = .ok (.aload_n 0, 1) := by decide +kernel
theorem dX11_init_16 : decode cX11_init 16 = .ok (.new 16, 3) := by decide +kernel
theorem dX11_init_19 : decode cX11_init 19 = .ok (.dup, 1) := by decide +kernel
theorem dX11_init_20 : decode cX11_init 20 = .ok (.invokespecial 18, 3) := by decide +kernel
theorem dX11_init_23 : decode cX11_init 23 = .ok (.putfield 19, 3) := by decide +kernel
theorem dX11_init_26 : decode cX11_init 26 = .ok (.aload_n 0, 1) := by decide +kernel
theorem dX11_init_27 : decode cX11_init 27 = .ok (.iconst 2, 1) := by decide +kernel
theorem dX11_init_28 : decode cX11_init 28 = .ok (.anewarray 16, 3) := by decide +kernel
theorem dX11_init_31 : decode cX11_init 31 = .ok (.putfield 23, 3) := by decide +kernel
theorem dX11_init_34 : decode cX11_init 34 = .ok (.iconst 0, 1) := by decide +kernel
theorem dX11_init_35 : decode cX11_init 35 = .ok (.istore_n 1, 1) := by decide +kernel
theorem dX11_init_36 : decode cX11_init 36 = .ok (.iload_n 1, 1) := by decide +kernel
theorem dX11_init_37 : decode cX11_init 37 = .ok (.iconst 2, 1) := by decide +kernel
theorem dX11_init_38 : decode cX11_init 38 = .ok (.if_icmp .ge 22, 3) := by decide +kernel
theorem dX11_init_41 : decode cX11_init 41 = .ok (.aload_n 0, 1) := by decide +kernel
theorem dX11_init_42 : decode cX11_init 42 = .ok (.getfield 23, 3) := by decide +kernel
theorem dX11_init_45 : decode cX11_init 45 = .ok (.iload_n 1, 1) := by decide +kernel
theorem dX11_init_46 : decode cX11_init 46 = .ok (.new 16, 3) := by decide +kernel
theorem dX11_init_49 : decode cX11_init 49 = .ok (.dup, 1) := by decide +kernel
theorem dX11_init_50 : decode cX11_init 50 = .ok (.invokespecial 18, 3) := by decide +kernel
theorem dX11_init_53 : decode cX11_init 53 = .ok (.aastore, 1) := by decide +kernel
theorem dX11_init_54 : decode cX11_init 54 = .ok (.iinc 1 1, 3) := by decide +kernel
theorem dX11_init_57 : decode cX11_init 57 = .ok (.goto (-21), 3) := by decide +kernel
theorem dX11_init_60 : decode cX11_init 60 = .ok (.aload_n 0, 1) := by decide +kernel
theorem dX11_init_61 : decode cX11_init 61 = .ok (.new 27, 3) := by decide +kernel
theorem dX11_init_64 : decode cX11_init 64 = .ok (.dup, 1) := by decide +kernel
theorem dX11_init_65 : decode cX11_init 65 = .ok (.invokespecial 29, 3) := by decide +kernel
theorem dX11_init_68 : decode cX11_init 68 = .ok (.putfield 30, 3) := by decide +kernel
theorem dX11_init_71 : decode cX11_init 71 = .ok (.aload_n 0, 1) := by decide +kernel
theorem dX11_init_72 : decode cX11_init 72 = .ok (.getfield 30, 3) := by decide +kernel
theorem dX11_init_75 : decode cX11_init 75 = .ok (.aload_n 0, 1) := by decide +kernel
theorem dX11_init_76 : decode cX11_init 76 = .ok (.getfield 19, 3) := by decide +kernel
theorem dX11_init_79 : decode cX11_init 79 = .ok (.getfield 34, 3) := by decide +kernel
theorem dX11_init_82 : decode cX11_init 82 = .ok (.getfield 38, 3) := by decide +kernel
theorem dX11_init_85 : decode cX11_init 85 = .ok (.aload_n 0, 1) := by decide +kernel
theorem dX11_init_86 : decode cX11_init 86 = .ok (.getfield 19, 3) := by decide +kernel
theorem dX11_init_89 : decode cX11_init 89 = .ok (.getfield 34, 3) := by decide +kernel
theorem dX11_init_92 : decode cX11_init 92 = .ok (.getfield 44, 3) := by decide +kernel
theorem dX11_init_95 : decode cX11_init 95 = .ok (.invokevirtual 47, 3) := by decide +kernel
theorem dX11_init_98 : decode cX11_init 98 = .ok (.aload_n 0, 1) := by decide +kernel
theorem dX11_init_99 : decode cX11_init 99 = .ok (.new 51, 3) := by decide +kernel
theorem dX11_init_102 : decode cX11_init 102 = .ok (.dup, 1) := by decide +kernel
theorem dX11_init_103 : decode cX11_init 103 = .ok (.aload_n 0, 1) := by decide +kernel
theorem dX11_init_104 : decode cX11_init 104 = .ok (.getfield 10, 3) := by decide +kernel
theorem dX11_init_107 : decode cX11_init 107 = .ok (.invokespecial 53, 3) := by decide +kernel
theorem dX11_init_110 : decode cX11_init 110 = .ok (.putfield 56, 3) := by decide +kernel
theorem dX11_init_113 : decode cX11_init 113 = .ok (.aload_n 0, 1) := by decide +kernel
theorem dX11_init_114 : decode cX11_init 114 = .ok (.new 60, 3) := by decide +kernel
theorem dX11_init_117 : decode cX11_init 117 = .ok (.dup, 1) := by decide +kernel
theorem dX11_init_118 : decode cX11_init 118 = .ok (.aload_n 0, 1) := by decide +kernel
theorem dX11_init_119 : decode cX11_init 119 = .ok (.getfield 19, 3) := by decide +kernel
theorem dX11_init_122 : decode cX11_init 122 = .ok (.aload_n 0, 1) := by decide +kernel
theorem dX11_init_123 : decode cX11_init 123 = .ok (.getfield 30, 3) := by decide +kernel
theorem dX11_init_126 : decode cX11_init 126 = .ok (.invokespecial 62, 3) := by decide +kernel
theorem dX11_init_129 : decode cX11_init 129 = .ok (.putfield 65, 3) := by decide +kernel
theorem dX11_init_132 : decode cX11_init 132 = .ok (.aload_n 0, 1) := by decide +kernel
theorem dX11_init_133 : decode cX11_init 133 = .ok (.new 69, 3) := by decide +kernel
theorem dX11_init_136 : decode cX11_init 136 = .ok (.dup, 1) := by decide +kernel
theorem dX11_init_137 : decode cX11_init 137 = .ok (.aload_n 0, 1) := by decide +kernel
theorem dX11_init_138 : decode cX11_init 138 = .ok (.getfield 19, 3) := by decide +kernel
theorem dX11_init_141 : decode cX11_init 141 = .ok (.getfield 34, 3) := by decide +kernel
theorem dX11_init_144 : decode cX11_init 144 = .ok (.aload_n 0, 1) := by decide +kernel
theorem dX11_init_145 : decode cX11_init 145 = .ok (.getfield 30, 3) := by decide +kernel
theorem dX11_init_148 : decode cX11_init 148 = .ok (.invokespecial 71, 3) := by decide +kernel
theorem dX11_init_151 : decode cX11_init 151 = .ok (.putfield 74, 3) := by decide +kernel
theorem dX11_init_154 : decode cX11_init 154 = .ok (.aload_n 0, 1) := by decide +kernel
theorem dX11_init_155 : decode cX11_init 155 = .ok (.new 78, 3) := by decide +kernel
theorem dX11_init_158 : decode cX11_init 158 = .ok (.dup, 1) := by decide +kernel
theorem dX11_init_159 : decode cX11_init 159 = .ok (.aload_n 0, 1) := by decide +kernel
theorem dX11_init_160 : decode cX11_init 160 = .ok (.getfield 19, 3) := by decide +kernel
theorem dX11_init_163 : decode cX11_init 163 = .ok (.aload_n 0, 1) := by decide +kernel
theorem dX11_init_164 : decode cX11_init 164 = .ok (.getfield 30, 3) := by decide +kernel
theorem dX11_init_167 : decode cX11_init 167 = .ok (.aload_n 0, 1) := by decide +kernel
theorem dX11_init_168 : decode cX11_init 168 = .ok (.getfield 65, 3) := by decide +kernel
theorem dX11_init_171 : decode cX11_init 171 = .ok (.invokespecial 80, 3) := by decide +kernel
theorem dX11_init_174 : decode cX11_init 174 = .ok (.putfield 83, 3) := by decide +kernel
theorem dX11_init_177 : decode cX11_init 177 = .ok (.aload_n 0, 1) := by decide +kernel
theorem dX11_init_178 : decode cX11_init 178 = .ok (.new 87, 3) := by decide +kernel
theorem dX11_init_181 : decode cX11_init 181 = .ok (.dup, 1) := by decide +kernel
theorem dX11_init_182 : decode cX11_init 182 = .ok (.aload_n 0, 1) := by decide +kernel
theorem dX11_init_183 : decode cX11_init 183 = .ok (.getfield 19, 3) := by decide +kernel
theorem dX11_init_186 : decode cX11_init 186 = .ok (.getfield 34, 3) := by decide +kernel
theorem dX11_init_189 : decode cX11_init 189 = .ok (.aload_n 0, 1) := by decide +kernel
theorem dX11_init_190 : decode cX11_init 190 = .ok (.getfield 30, 3) := by decide +kernel
theorem dX11_init_193 : decode cX11_init 193 = .ok (.aload_n 0, 1) := by decide +kernel
theorem dX11_init_194 : decode cX11_init 194 = .ok (.getfield 65, 3) := by decide +kernel
theorem dX11_init_197 : decode cX11_init 197 = .ok (.invokespecial 89, 3) := by decide +kernel
theorem dX11_init_200 : decode cX11_init 200 = .ok (.putfield 92, 3) := by decide +kernel
theorem dX11_init_203 : decode cX11_init 203 = .ok (.aload_n 0, 1) := by decide +kernel
theorem dX11_init_204 : decode cX11_init 204 = .ok (.new 96, 3) := by decide +kernel
theorem dX11_init_207 : decode cX11_init 207 = .ok (.dup, 1) := by decide +kernel
theorem dX11_init_208 : decode cX11_init 208 = .ok (.aload_n 0, 1) := by decide +kernel
theorem dX11_init_209 : decode cX11_init 209 = .ok (.getfield 19, 3) := by decide +kernel
theorem dX11_init_212 : decode cX11_init 212 = .ok (.getfield 34, 3) := by decide +kernel
theorem dX11_init_215 : decode cX11_init 215 = .ok (.aload_n 0, 1) := by decide +kernel
theorem dX11_init_216 : decode cX11_init 216 = .ok (.getfield 30, 3) := by decide +kernel
theorem dX11_init_219 : decode cX11_init 219 = .ok (.aload_n 0, 1) := by decide +kernel
theorem dX11_init_220 : decode cX11_init 220 = .ok (.getfield 65, 3) := by decide +kernel
theorem dX11_init_223 : decode cX11_init 223 = .ok (.invokespecial 98, 3) := by decide +kernel
theorem dX11_init_226 : decode cX11_init 226 = .ok (.putfield 99, 3) := by decide +kernel
theorem dX11_init_229 : decode cX11_init 229 = .ok (.aload_n 0, 1) := by decide +kernel
theorem dX11_init_230 : decode cX11_init 230 = .ok (.iconst 0, 1) := by decide +kernel
theorem dX11_init_231 : decode cX11_init 231 = .ok (.putfield 103, 3) := by decide +kernel
theorem dX11_init_234 : decode cX11_init 234 = .ok (.aload_n 0, 1) := by decide +kernel
theorem dX11_init_235 : decode cX11_init 235 = .ok (.iconst (-1), 1) := by decide +kernel
theorem dX11_init_236 : decode cX11_init 236 = .ok (.putfield 106, 3) := by decide +kernel
theorem dX11_init_239 : decode cX11_init 239 = .ok (.return_, 1) := by decide +kernel
def mxL : List (Int → Int) := [(up1 z0 11 (-1)), z0, z0, wcF, z0, (up1 (up1 (up1 (up1 (up1 z0 3 (3)) 4 (3)) 5 (5)) 6 (3)) 7 (10)), z0, z0, z0, z0, z0, m1, z0, z0, z0, (up1 (up1 (up1 (up1 (up1 z0 3 (3)) 4 (3)) 5 (5)) 6 (3)) 7 (10)), z0, z0, z0, z0, z0, m1, z0, z0, (up1 (up1 (up1 (up1 (up1 z0 3 (3)) 4 (3)) 5 (5)) 6 (3)) 7 (10)), z0, z0, z0, z0, z0, m1, z0, (MGr 32), (MGr 33), z0, (up1 (up1 (up1 (up1 (up1 z0 3 (3)) 4 (3)) 5 (5)) 6 (3)) 7 (10)), z0, z0, z0, z0, z0, z0, z0, z0, z0, (up1 (up1 (up1 (up1 (up1 z0 2 (-1)) 3 (-1)) 4 (-1)) 5 (-1)) 6 (-1)), z0, (up1 (up1 (up1 (up1 (up1 z0 2 (-1)) 3 (-1)) 4 (-1)) 5 (-1)) 6 (-1)), z0, z0, z0, z0, z0, z0, (up1 (up1 (up1 (up1 (up1 z0 2 (-1)) 3 (-1)) 4 (-1)) 5 (-1)) 6 (-1)), z0, z0, z0, z0, z0, z0, z0, z0, z0, z0, z0, z0]
def Mx0 : Mem := fun a => mxL.getD a z0
def SB : List Nat := [0, 1, 2, 3, 5, 6, 7, 8, 9, 10, 12, 11, 13, 14, 15, 16, 17, 18, 19, 20, 22, 21, 23, 24, 25, 26, 27, 28, 29, 31, 30, 32, 33, 34, 35, 36, 37, 38, 39, 40, 41, 42, 43, 44, 45, 46, 4, 48, 47, 49, 50, 51, 52, 53, 55, 56, 57, 58, 59, 60, 61, 62, 63, 64, 65, 66, 54]
theorem SB_clo : clo SB = true := by decide +kernel
theorem mc_0 : (List.range (cN 11)).map (fun j => some (fcode Mx0 0 j (cTy 11 j))) = [some (.inr 1), some (.inr 4), some (.inr 13), some (.inr 32), some (.inr 34), some (.inr 43), some (.inr 45), some (.inr 46), some (.inr 49), some (.inr 53), some (.inl (.inl 0)), some (.inl (.inl (-1)))] := by decide +kernel
theorem we_0 (T : Nat → ClassId) (ad : Nat → Nat) : went T ad Mx0 0 = .inr (11, [.ref (ad 1), .ref (ad 4), .ref (ad 13), .ref (ad 32), .ref (ad 34), .ref (ad 43), .ref (ad 45), .ref (ad 46), .ref (ad 49), .ref (ad 53), .int (Int32.ofInt 0), .int (Int32.ofInt (-1))]) := by
  rw [went_obj (a := 0) (w := 21) (n := 0) rfl (by decide), flds_code, show 21 - 10 = 11 from rfl, mc_0]
  rfl
theorem mc_1 : (List.range (cN 9)).map (fun j => some (fcode Mx0 1 j (cTy 9 j))) = [some (.inr 2), some (.inl (.inl 0)), some (.inr 3), some (.inl (.inl 0)), some (.inl (.inl 0)), some (.inl (.inl 0)), some (.inl (.inl 0)), some (.inl (.inl 0)), some (.inl (.inl 0)), some (.inl (.inl 0)), some (.inl (.inl 0))] := by decide +kernel
theorem we_1 (T : Nat → ClassId) (ad : Nat → Nat) : went T ad Mx0 1 = .inr (9, [.ref (ad 2), .int (Int32.ofInt 0), .ref (ad 3), .int (Int32.ofInt 0), .int (Int32.ofInt 0), .int (Int32.ofInt 0), .int (Int32.ofInt 0), .int (Int32.ofInt 0), .int (Int32.ofInt 0), .int (Int32.ofInt 0), .int (Int32.ofInt 0)]) := by
  rw [went_obj (a := 1) (w := 19) (n := 0) rfl (by decide), flds_code, show 19 - 10 = 9 from rfl, mc_1]
  rfl
theorem we_2 (T : Nat → ClassId) (ad : Nat → Nat) : went T ad Mx0 2 = .inl (T 0, 940, .inl (fun j => Int32.ofInt (z0 (j : Int)))) := by
  rw [went_0 (a := 2) (n := 940) rfl, show Mx0 2 = z0 from rfl]
theorem we_3 (T : Nat → ClassId) (ad : Nat → Nat) : went T ad Mx0 3 = .inl (T 0, 17, .inl (fun j => Int32.ofInt (wcF (j : Int)))) := by
  rw [went_0 (a := 3) (n := 17) rfl, show Mx0 3 = wcF from rfl]
theorem mc_5 : (List.range (cN 3)).map (fun j => some (fcode Mx0 5 j (cTy 3 j))) = [some (.inl (.inl 0)), some (.inl (.inl 0)), some (.inl (.inl 0)), some (.inl (.inl 3)), some (.inl (.inl 3)), some (.inl (.inl 5)), some (.inl (.inl 3)), some (.inl (.inl 10)), some (.inr 6), some (.inr 7), some (.inr 8), some (.inr 9), some (.inr 10)] := by decide +kernel
theorem we_5 (T : Nat → ClassId) (ad : Nat → Nat) : went T ad Mx0 5 = .inr (3, [.int (Int32.ofInt 0), .int (Int32.ofInt 0), .int (Int32.ofInt 0), .int (Int32.ofInt 3), .int (Int32.ofInt 3), .int (Int32.ofInt 5), .int (Int32.ofInt 3), .int (Int32.ofInt 10), .ref (ad 6), .ref (ad 7), .ref (ad 8), .ref (ad 9), .ref (ad 10)]) := by
  rw [went_obj (a := 5) (w := 13) (n := 0) rfl (by decide), flds_code, show 13 - 10 = 3 from rfl, mc_5]
  rfl
theorem we_6 (T : Nat → ClassId) (ad : Nat → Nat) : went T ad Mx0 6 = .inl (T 0, 24, .inl (fun j => Int32.ofInt (z0 (j : Int)))) := by
  rw [went_0 (a := 6) (n := 24) rfl, show Mx0 6 = z0 from rfl]
theorem we_7 (T : Nat → ClassId) (ad : Nat → Nat) : went T ad Mx0 7 = .inl (T 0, 49, .inl (fun j => Int32.ofInt (z0 (j : Int)))) := by
  rw [went_0 (a := 7) (n := 49) rfl, show Mx0 7 = z0 from rfl]
theorem we_8 (T : Nat → ClassId) (ad : Nat → Nat) : went T ad Mx0 8 = .inl (T 0, 36, .inl (fun j => Int32.ofInt (z0 (j : Int)))) := by
  rw [went_0 (a := 8) (n := 36) rfl, show Mx0 8 = z0 from rfl]
theorem we_9 (T : Nat → ClassId) (ad : Nat → Nat) : went T ad Mx0 9 = .inl (T 0, 8, .inl (fun j => Int32.ofInt (z0 (j : Int)))) := by
  rw [went_0 (a := 9) (n := 8) rfl, show Mx0 9 = z0 from rfl]
theorem we_10 (T : Nat → ClassId) (ad : Nat → Nat) : went T ad Mx0 10 = .inl (T 0, 9, .inl (fun j => Int32.ofInt (z0 (j : Int)))) := by
  rw [went_0 (a := 10) (n := 9) rfl, show Mx0 10 = z0 from rfl]
theorem we_12 (T : Nat → ClassId) (ad : Nat → Nat) : went T ad Mx0 12 = .inl (T 0, 240, .inl (fun j => Int32.ofInt (z0 (j : Int)))) := by
  rw [went_0 (a := 12) (n := 240) rfl, show Mx0 12 = z0 from rfl]
theorem we_11 (T : Nat → ClassId) (ad : Nat → Nat) : went T ad Mx0 11 = .inl (T 0, 24, .inl (fun j => Int32.ofInt (m1 (j : Int)))) := by
  rw [went_0 (a := 11) (n := 24) rfl, show Mx0 11 = m1 from rfl]
theorem mc_14 : (List.range (cN 7)).map (fun j => some (fcode Mx0 14 j (cTy 7 j))) = [some (.inr 15), some (.inr 21), some (.inr 22), some (.inl (.inl 0)), some (.inl (.inl 0)), some (.inl (.inl 0))] := by decide +kernel
theorem we_14 (T : Nat → ClassId) (ad : Nat → Nat) : went T ad Mx0 14 = .inr (7, [.ref (ad 15), .ref (ad 21), .ref (ad 22), .int (Int32.ofInt 0), .int (Int32.ofInt 0), .int (Int32.ofInt 0)]) := by
  rw [went_obj (a := 14) (w := 17) (n := 0) rfl (by decide), flds_code, show 17 - 10 = 7 from rfl, mc_14]
  rfl
theorem mc_15 : (List.range (cN 3)).map (fun j => some (fcode Mx0 15 j (cTy 3 j))) = [some (.inl (.inl 0)), some (.inl (.inl 0)), some (.inl (.inl 0)), some (.inl (.inl 3)), some (.inl (.inl 3)), some (.inl (.inl 5)), some (.inl (.inl 3)), some (.inl (.inl 10)), some (.inr 16), some (.inr 17), some (.inr 18), some (.inr 19), some (.inr 20)] := by decide +kernel
theorem we_15 (T : Nat → ClassId) (ad : Nat → Nat) : went T ad Mx0 15 = .inr (3, [.int (Int32.ofInt 0), .int (Int32.ofInt 0), .int (Int32.ofInt 0), .int (Int32.ofInt 3), .int (Int32.ofInt 3), .int (Int32.ofInt 5), .int (Int32.ofInt 3), .int (Int32.ofInt 10), .ref (ad 16), .ref (ad 17), .ref (ad 18), .ref (ad 19), .ref (ad 20)]) := by
  rw [went_obj (a := 15) (w := 13) (n := 0) rfl (by decide), flds_code, show 13 - 10 = 3 from rfl, mc_15]
  rfl
theorem we_16 (T : Nat → ClassId) (ad : Nat → Nat) : went T ad Mx0 16 = .inl (T 0, 24, .inl (fun j => Int32.ofInt (z0 (j : Int)))) := by
  rw [went_0 (a := 16) (n := 24) rfl, show Mx0 16 = z0 from rfl]
theorem we_17 (T : Nat → ClassId) (ad : Nat → Nat) : went T ad Mx0 17 = .inl (T 0, 49, .inl (fun j => Int32.ofInt (z0 (j : Int)))) := by
  rw [went_0 (a := 17) (n := 49) rfl, show Mx0 17 = z0 from rfl]
theorem we_18 (T : Nat → ClassId) (ad : Nat → Nat) : went T ad Mx0 18 = .inl (T 0, 36, .inl (fun j => Int32.ofInt (z0 (j : Int)))) := by
  rw [went_0 (a := 18) (n := 36) rfl, show Mx0 18 = z0 from rfl]
theorem we_19 (T : Nat → ClassId) (ad : Nat → Nat) : went T ad Mx0 19 = .inl (T 0, 8, .inl (fun j => Int32.ofInt (z0 (j : Int)))) := by
  rw [went_0 (a := 19) (n := 8) rfl, show Mx0 19 = z0 from rfl]
theorem we_20 (T : Nat → ClassId) (ad : Nat → Nat) : went T ad Mx0 20 = .inl (T 0, 9, .inl (fun j => Int32.ofInt (z0 (j : Int)))) := by
  rw [went_0 (a := 20) (n := 9) rfl, show Mx0 20 = z0 from rfl]
theorem we_22 (T : Nat → ClassId) (ad : Nat → Nat) : went T ad Mx0 22 = .inl (T 0, 240, .inl (fun j => Int32.ofInt (z0 (j : Int)))) := by
  rw [went_0 (a := 22) (n := 240) rfl, show Mx0 22 = z0 from rfl]
theorem we_21 (T : Nat → ClassId) (ad : Nat → Nat) : went T ad Mx0 21 = .inl (T 0, 24, .inl (fun j => Int32.ofInt (m1 (j : Int)))) := by
  rw [went_0 (a := 21) (n := 24) rfl, show Mx0 21 = m1 from rfl]
theorem mc_23 : (List.range (cN 7)).map (fun j => some (fcode Mx0 23 j (cTy 7 j))) = [some (.inr 24), some (.inr 30), some (.inr 31), some (.inl (.inl 0)), some (.inl (.inl 0)), some (.inl (.inl 0))] := by decide +kernel
theorem we_23 (T : Nat → ClassId) (ad : Nat → Nat) : went T ad Mx0 23 = .inr (7, [.ref (ad 24), .ref (ad 30), .ref (ad 31), .int (Int32.ofInt 0), .int (Int32.ofInt 0), .int (Int32.ofInt 0)]) := by
  rw [went_obj (a := 23) (w := 17) (n := 0) rfl (by decide), flds_code, show 17 - 10 = 7 from rfl, mc_23]
  rfl
theorem mc_24 : (List.range (cN 3)).map (fun j => some (fcode Mx0 24 j (cTy 3 j))) = [some (.inl (.inl 0)), some (.inl (.inl 0)), some (.inl (.inl 0)), some (.inl (.inl 3)), some (.inl (.inl 3)), some (.inl (.inl 5)), some (.inl (.inl 3)), some (.inl (.inl 10)), some (.inr 25), some (.inr 26), some (.inr 27), some (.inr 28), some (.inr 29)] := by decide +kernel
theorem we_24 (T : Nat → ClassId) (ad : Nat → Nat) : went T ad Mx0 24 = .inr (3, [.int (Int32.ofInt 0), .int (Int32.ofInt 0), .int (Int32.ofInt 0), .int (Int32.ofInt 3), .int (Int32.ofInt 3), .int (Int32.ofInt 5), .int (Int32.ofInt 3), .int (Int32.ofInt 10), .ref (ad 25), .ref (ad 26), .ref (ad 27), .ref (ad 28), .ref (ad 29)]) := by
  rw [went_obj (a := 24) (w := 13) (n := 0) rfl (by decide), flds_code, show 13 - 10 = 3 from rfl, mc_24]
  rfl
theorem we_25 (T : Nat → ClassId) (ad : Nat → Nat) : went T ad Mx0 25 = .inl (T 0, 24, .inl (fun j => Int32.ofInt (z0 (j : Int)))) := by
  rw [went_0 (a := 25) (n := 24) rfl, show Mx0 25 = z0 from rfl]
theorem we_26 (T : Nat → ClassId) (ad : Nat → Nat) : went T ad Mx0 26 = .inl (T 0, 49, .inl (fun j => Int32.ofInt (z0 (j : Int)))) := by
  rw [went_0 (a := 26) (n := 49) rfl, show Mx0 26 = z0 from rfl]
theorem we_27 (T : Nat → ClassId) (ad : Nat → Nat) : went T ad Mx0 27 = .inl (T 0, 36, .inl (fun j => Int32.ofInt (z0 (j : Int)))) := by
  rw [went_0 (a := 27) (n := 36) rfl, show Mx0 27 = z0 from rfl]
theorem we_28 (T : Nat → ClassId) (ad : Nat → Nat) : went T ad Mx0 28 = .inl (T 0, 8, .inl (fun j => Int32.ofInt (z0 (j : Int)))) := by
  rw [went_0 (a := 28) (n := 8) rfl, show Mx0 28 = z0 from rfl]
theorem we_29 (T : Nat → ClassId) (ad : Nat → Nat) : went T ad Mx0 29 = .inl (T 0, 9, .inl (fun j => Int32.ofInt (z0 (j : Int)))) := by
  rw [went_0 (a := 29) (n := 9) rfl, show Mx0 29 = z0 from rfl]
theorem we_31 (T : Nat → ClassId) (ad : Nat → Nat) : went T ad Mx0 31 = .inl (T 0, 240, .inl (fun j => Int32.ofInt (z0 (j : Int)))) := by
  rw [went_0 (a := 31) (n := 240) rfl, show Mx0 31 = z0 from rfl]
theorem we_30 (T : Nat → ClassId) (ad : Nat → Nat) : went T ad Mx0 30 = .inl (T 0, 24, .inl (fun j => Int32.ofInt (m1 (j : Int)))) := by
  rw [went_0 (a := 30) (n := 24) rfl, show Mx0 30 = m1 from rfl]
theorem mc_32 : (List.range (cN 0)).map (fun j => some (fcode Mx0 32 j (cTy 0 j))) = [some (.inl (.inl (MGr 32 ((0 : Nat) : Int)))), some (.inl (.inl (MGr 32 ((1 : Nat) : Int)))), some (.inl (.inl (MGr 32 ((2 : Nat) : Int)))), some (.inl (.inl (MGr 32 ((3 : Nat) : Int)))), some (.inl (.inl (MGr 32 ((4 : Nat) : Int)))), some (.inl (.inl (MGr 32 ((5 : Nat) : Int)))), some (.inr 33)] := by decide +kernel
theorem we_32 (T : Nat → ClassId) (ad : Nat → Nat) : went T ad Mx0 32 = .inr (0, [.int (Int32.ofInt (MGr 32 ((0 : Nat) : Int))), .int (Int32.ofInt (MGr 32 ((1 : Nat) : Int))), .int (Int32.ofInt (MGr 32 ((2 : Nat) : Int))), .int (Int32.ofInt (MGr 32 ((3 : Nat) : Int))), .int (Int32.ofInt (MGr 32 ((4 : Nat) : Int))), .int (Int32.ofInt (MGr 32 ((5 : Nat) : Int))), .ref (ad 33)]) := by
  rw [went_obj (a := 32) (w := 10) (n := 0) rfl (by decide), flds_code, show 10 - 10 = 0 from rfl, mc_32]
  rfl
theorem we_33 (T : Nat → ClassId) (ad : Nat → Nat) : went T ad Mx0 33 = .inl (T 0, 72, .inl (fun j => Int32.ofInt ((MGr 33) (j : Int)))) := by
  rw [went_0 (a := 33) (n := 72) rfl, show Mx0 33 = (MGr 33) from rfl]
theorem mc_34 : (List.range (cN 10)).map (fun j => some (fcode Mx0 34 j (cTy 10 j))) = [some (.inr 1), some (.inr 35), some (.inr 41), some (.inr 42), some (.inl (.inl 0)), some (.inl (.inl 0)), some (.inl (.inl 0))] := by decide +kernel
theorem we_34 (T : Nat → ClassId) (ad : Nat → Nat) : went T ad Mx0 34 = .inr (10, [.ref (ad 1), .ref (ad 35), .ref (ad 41), .ref (ad 42), .int (Int32.ofInt 0), .int (Int32.ofInt 0), .int (Int32.ofInt 0)]) := by
  rw [went_obj (a := 34) (w := 20) (n := 0) rfl (by decide), flds_code, show 20 - 10 = 10 from rfl, mc_34]
  rfl
theorem mc_35 : (List.range (cN 3)).map (fun j => some (fcode Mx0 35 j (cTy 3 j))) = [some (.inl (.inl 0)), some (.inl (.inl 0)), some (.inl (.inl 0)), some (.inl (.inl 3)), some (.inl (.inl 3)), some (.inl (.inl 5)), some (.inl (.inl 3)), some (.inl (.inl 10)), some (.inr 36), some (.inr 37), some (.inr 38), some (.inr 39), some (.inr 40)] := by decide +kernel
theorem we_35 (T : Nat → ClassId) (ad : Nat → Nat) : went T ad Mx0 35 = .inr (3, [.int (Int32.ofInt 0), .int (Int32.ofInt 0), .int (Int32.ofInt 0), .int (Int32.ofInt 3), .int (Int32.ofInt 3), .int (Int32.ofInt 5), .int (Int32.ofInt 3), .int (Int32.ofInt 10), .ref (ad 36), .ref (ad 37), .ref (ad 38), .ref (ad 39), .ref (ad 40)]) := by
  rw [went_obj (a := 35) (w := 13) (n := 0) rfl (by decide), flds_code, show 13 - 10 = 3 from rfl, mc_35]
  rfl
theorem we_36 (T : Nat → ClassId) (ad : Nat → Nat) : went T ad Mx0 36 = .inl (T 0, 24, .inl (fun j => Int32.ofInt (z0 (j : Int)))) := by
  rw [went_0 (a := 36) (n := 24) rfl, show Mx0 36 = z0 from rfl]
theorem we_37 (T : Nat → ClassId) (ad : Nat → Nat) : went T ad Mx0 37 = .inl (T 0, 49, .inl (fun j => Int32.ofInt (z0 (j : Int)))) := by
  rw [went_0 (a := 37) (n := 49) rfl, show Mx0 37 = z0 from rfl]
theorem we_38 (T : Nat → ClassId) (ad : Nat → Nat) : went T ad Mx0 38 = .inl (T 0, 36, .inl (fun j => Int32.ofInt (z0 (j : Int)))) := by
  rw [went_0 (a := 38) (n := 36) rfl, show Mx0 38 = z0 from rfl]
theorem we_39 (T : Nat → ClassId) (ad : Nat → Nat) : went T ad Mx0 39 = .inl (T 0, 8, .inl (fun j => Int32.ofInt (z0 (j : Int)))) := by
  rw [went_0 (a := 39) (n := 8) rfl, show Mx0 39 = z0 from rfl]
theorem we_40 (T : Nat → ClassId) (ad : Nat → Nat) : went T ad Mx0 40 = .inl (T 0, 9, .inl (fun j => Int32.ofInt (z0 (j : Int)))) := by
  rw [went_0 (a := 40) (n := 9) rfl, show Mx0 40 = z0 from rfl]
theorem we_41 (T : Nat → ClassId) (ad : Nat → Nat) : went T ad Mx0 41 = .inl (T 0, 240, .inl (fun j => Int32.ofInt (z0 (j : Int)))) := by
  rw [went_0 (a := 41) (n := 240) rfl, show Mx0 41 = z0 from rfl]
theorem we_42 (T : Nat → ClassId) (ad : Nat → Nat) : went T ad Mx0 42 = .inl (T 0, 2, .inl (fun j => Int32.ofInt (z0 (j : Int)))) := by
  rw [went_0 (a := 42) (n := 2) rfl, show Mx0 42 = z0 from rfl]
theorem mc_43 : (List.range (cN 4)).map (fun j => some (fcode Mx0 43 j (cTy 4 j))) = [some (.inr 4), some (.inr 5), some (.inr 32), some (.inr 44), some (.inl (.inl 0)), some (.inl (.inl 0)), some (.inl (.inl 0)), some (.inl (.inl 0)), some (.inl (.inl 0)), some (.inl (.inl 0))] := by decide +kernel
theorem we_43 (T : Nat → ClassId) (ad : Nat → Nat) : went T ad Mx0 43 = .inr (4, [.ref (ad 4), .ref (ad 5), .ref (ad 32), .ref (ad 44), .int (Int32.ofInt 0), .int (Int32.ofInt 0), .int (Int32.ofInt 0), .int (Int32.ofInt 0), .int (Int32.ofInt 0), .int (Int32.ofInt 0)]) := by
  rw [went_obj (a := 43) (w := 14) (n := 0) rfl (by decide), flds_code, show 14 - 10 = 4 from rfl, mc_43]
  rfl
theorem we_44 (T : Nat → ClassId) (ad : Nat → Nat) : went T ad Mx0 44 = .inl (T 0, 7, .inl (fun j => Int32.ofInt (z0 (j : Int)))) := by
  rw [went_0 (a := 44) (n := 7) rfl, show Mx0 44 = z0 from rfl]
theorem mc_45 : (List.range (cN 8)).map (fun j => some (fcode Mx0 45 j (cTy 8 j))) = [some (.inr 5), some (.inr 32), some (.inl (.inl (-1))), some (.inl (.inl (-1))), some (.inl (.inl (-1))), some (.inl (.inl (-1))), some (.inl (.inl (-1)))] := by decide +kernel
theorem we_45 (T : Nat → ClassId) (ad : Nat → Nat) : went T ad Mx0 45 = .inr (8, [.ref (ad 5), .ref (ad 32), .int (Int32.ofInt (-1)), .int (Int32.ofInt (-1)), .int (Int32.ofInt (-1)), .int (Int32.ofInt (-1)), .int (Int32.ofInt (-1))]) := by
  rw [went_obj (a := 45) (w := 18) (n := 0) rfl (by decide), flds_code, show 18 - 10 = 8 from rfl, mc_45]
  rfl
theorem mc_46 : (List.range (cN 1)).map (fun j => some (fcode Mx0 46 j (cTy 1 j))) = [some (.inr 4), some (.inr 5), some (.inr 32), some (.inr 43), some (.inr 47), some (.inr 48), some (.inl (.inl 0)), some (.inl (.inl 0)), some (.inl (.inl 0)), some (.inl (.inl 0)), some (.inl (.inl 0)), some (.inl (.inl 0)), some (.inl (.inl 0)), some (.inl (.inl 0)), some (.inl (.inl 0)), some (.inl (.inl 0)), some (.inl (.inl 0)), some (.inl (.inl 0))] := by decide +kernel
theorem we_46 (T : Nat → ClassId) (ad : Nat → Nat) : went T ad Mx0 46 = .inr (1, [.ref (ad 4), .ref (ad 5), .ref (ad 32), .ref (ad 43), .ref (ad 47), .ref (ad 48), .int (Int32.ofInt 0), .int (Int32.ofInt 0), .int (Int32.ofInt 0), .int (Int32.ofInt 0), .int (Int32.ofInt 0), .int (Int32.ofInt 0), .int (Int32.ofInt 0), .int (Int32.ofInt 0), .int (Int32.ofInt 0), .int (Int32.ofInt 0), .int (Int32.ofInt 0), .int (Int32.ofInt 0)]) := by
  rw [went_obj (a := 46) (w := 11) (n := 0) rfl (by decide), flds_code, show 11 - 10 = 1 from rfl, mc_46]
  rfl
theorem mc_4 : (List.range (cN 7)).map (fun j => some (fcode Mx0 4 j (cTy 7 j))) = [some (.inr 5), some (.inr 11), some (.inr 12), some (.inl (.inl 0)), some (.inl (.inl 0)), some (.inl (.inl 0))] := by decide +kernel
theorem we_4 (T : Nat → ClassId) (ad : Nat → Nat) : went T ad Mx0 4 = .inr (7, [.ref (ad 5), .ref (ad 11), .ref (ad 12), .int (Int32.ofInt 0), .int (Int32.ofInt 0), .int (Int32.ofInt 0)]) := by
  rw [went_obj (a := 4) (w := 17) (n := 0) rfl (by decide), flds_code, show 17 - 10 = 7 from rfl, mc_4]
  rfl
theorem we_48 (T : Nat → ClassId) (ad : Nat → Nat) : went T ad Mx0 48 = .inl (T 0, 24, .inl (fun j => Int32.ofInt (z0 (j : Int)))) := by
  rw [went_0 (a := 48) (n := 24) rfl, show Mx0 48 = z0 from rfl]
theorem mc_47 : (List.range (cN 8)).map (fun j => some (fcode Mx0 47 j (cTy 8 j))) = [some (.inr 5), some (.inr 32), some (.inl (.inl (-1))), some (.inl (.inl (-1))), some (.inl (.inl (-1))), some (.inl (.inl (-1))), some (.inl (.inl (-1)))] := by decide +kernel
theorem we_47 (T : Nat → ClassId) (ad : Nat → Nat) : went T ad Mx0 47 = .inr (8, [.ref (ad 5), .ref (ad 32), .int (Int32.ofInt (-1)), .int (Int32.ofInt (-1)), .int (Int32.ofInt (-1)), .int (Int32.ofInt (-1)), .int (Int32.ofInt (-1))]) := by
  rw [went_obj (a := 47) (w := 18) (n := 0) rfl (by decide), flds_code, show 18 - 10 = 8 from rfl, mc_47]
  rfl
theorem mc_49 : (List.range (cN 6)).map (fun j => some (fcode Mx0 49 j (cTy 6 j))) = [some (.inr 5), some (.inr 32), some (.inr 43), some (.inr 50), some (.inr 51), some (.inr 52), some (.inl (.inl 0))] := by decide +kernel
theorem we_49 (T : Nat → ClassId) (ad : Nat → Nat) : went T ad Mx0 49 = .inr (6, [.ref (ad 5), .ref (ad 32), .ref (ad 43), .ref (ad 50), .ref (ad 51), .ref (ad 52), .int (Int32.ofInt 0)]) := by
  rw [went_obj (a := 49) (w := 16) (n := 0) rfl (by decide), flds_code, show 16 - 10 = 6 from rfl, mc_49]
  rfl
theorem we_50 (T : Nat → ClassId) (ad : Nat → Nat) : went T ad Mx0 50 = .inl (T 0, 6, .inl (fun j => Int32.ofInt (z0 (j : Int)))) := by
  rw [went_0 (a := 50) (n := 6) rfl, show Mx0 50 = z0 from rfl]
theorem we_51 (T : Nat → ClassId) (ad : Nat → Nat) : went T ad Mx0 51 = .inl (T 0, 24, .inl (fun j => Int32.ofInt (z0 (j : Int)))) := by
  rw [went_0 (a := 51) (n := 24) rfl, show Mx0 51 = z0 from rfl]
theorem we_52 (T : Nat → ClassId) (ad : Nat → Nat) : went T ad Mx0 52 = .inl (T 0, 24, .inl (fun j => Int32.ofInt (z0 (j : Int)))) := by
  rw [went_0 (a := 52) (n := 24) rfl, show Mx0 52 = z0 from rfl]
theorem mc_53 : (List.range (cN 5)).map (fun j => some (fcode Mx0 53 j (cTy 5 j))) = [some (.inr 5), some (.inr 32), some (.inr 43), some (.inr 54), some (.inr 55), some (.inr 59), some (.inr 60), some (.inr 61), some (.inl (.inl 0)), some (.inr 62), some (.inr 63), some (.inr 64), some (.inr 65), some (.inr 66), some (.inl (.inl 0)), some (.inl (.inl 0)), some (.inl (.inl 0))] := by decide +kernel
theorem we_53 (T : Nat → ClassId) (ad : Nat → Nat) : went T ad Mx0 53 = .inr (5, [.ref (ad 5), .ref (ad 32), .ref (ad 43), .ref (ad 54), .ref (ad 55), .ref (ad 59), .ref (ad 60), .ref (ad 61), .int (Int32.ofInt 0), .ref (ad 62), .ref (ad 63), .ref (ad 64), .ref (ad 65), .ref (ad 66), .int (Int32.ofInt 0), .int (Int32.ofInt 0), .int (Int32.ofInt 0)]) := by
  rw [went_obj (a := 53) (w := 15) (n := 0) rfl (by decide), flds_code, show 15 - 10 = 5 from rfl, mc_53]
  rfl
theorem mc_55 : (List.range (cN 2)).map (fun j => some (fcode Mx0 55 j (cTy 2 j))) = [some (.inl (.inl 0)), some (.inr 56), some (.inr 57), some (.inr 58)] := by decide +kernel
theorem we_55 (T : Nat → ClassId) (ad : Nat → Nat) : went T ad Mx0 55 = .inr (2, [.int (Int32.ofInt 0), .ref (ad 56), .ref (ad 57), .ref (ad 58)]) := by
  rw [went_obj (a := 55) (w := 12) (n := 0) rfl (by decide), flds_code, show 12 - 10 = 2 from rfl, mc_55]
  rfl
theorem we_56 (T : Nat → ClassId) (ad : Nat → Nat) : went T ad Mx0 56 = .inl (T 0, 1045, .inl (fun j => Int32.ofInt (z0 (j : Int)))) := by
  rw [went_0 (a := 56) (n := 1045) rfl, show Mx0 56 = z0 from rfl]
theorem we_57 (T : Nat → ClassId) (ad : Nat → Nat) : went T ad Mx0 57 = .inl (T 0, 1045, .inl (fun j => Int32.ofInt (z0 (j : Int)))) := by
  rw [went_0 (a := 57) (n := 1045) rfl, show Mx0 57 = z0 from rfl]
theorem we_58 (T : Nat → ClassId) (ad : Nat → Nat) : went T ad Mx0 58 = .inl (T 0, 1045, .inl (fun j => Int32.ofInt (z0 (j : Int)))) := by
  rw [went_0 (a := 58) (n := 1045) rfl, show Mx0 58 = z0 from rfl]
theorem we_59 (T : Nat → ClassId) (ad : Nat → Nat) : went T ad Mx0 59 = .inl (T 0, 4, .inl (fun j => Int32.ofInt (z0 (j : Int)))) := by
  rw [went_0 (a := 59) (n := 4) rfl, show Mx0 59 = z0 from rfl]
theorem we_60 (T : Nat → ClassId) (ad : Nat → Nat) : went T ad Mx0 60 = .inl (T 0, 4, .inl (fun j => Int32.ofInt (z0 (j : Int)))) := by
  rw [went_0 (a := 60) (n := 4) rfl, show Mx0 60 = z0 from rfl]
theorem we_61 (T : Nat → ClassId) (ad : Nat → Nat) : went T ad Mx0 61 = .inl (T 0, 4, .inl (fun j => Int32.ofInt (z0 (j : Int)))) := by
  rw [went_0 (a := 61) (n := 4) rfl, show Mx0 61 = z0 from rfl]
theorem we_62 (T : Nat → ClassId) (ad : Nat → Nat) : went T ad Mx0 62 = .inl (T 0, 1152, .inl (fun j => Int32.ofInt (z0 (j : Int)))) := by
  rw [went_0 (a := 62) (n := 1152) rfl, show Mx0 62 = z0 from rfl]
theorem we_63 (T : Nat → ClassId) (ad : Nat → Nat) : went T ad Mx0 63 = .inl (T 0, 1045, .inl (fun j => Int32.ofInt (z0 (j : Int)))) := by
  rw [went_0 (a := 63) (n := 1045) rfl, show Mx0 63 = z0 from rfl]
theorem we_64 (T : Nat → ClassId) (ad : Nat → Nat) : went T ad Mx0 64 = .inl (T 0, 24, .inl (fun j => Int32.ofInt (z0 (j : Int)))) := by
  rw [went_0 (a := 64) (n := 24) rfl, show Mx0 64 = z0 from rfl]
theorem we_65 (T : Nat → ClassId) (ad : Nat → Nat) : went T ad Mx0 65 = .inl (T 0, 4096, .inl (fun j => Int32.ofInt (z0 (j : Int)))) := by
  rw [went_0 (a := 65) (n := 4096) rfl, show Mx0 65 = z0 from rfl]
theorem we_66 (T : Nat → ClassId) (ad : Nat → Nat) : went T ad Mx0 66 = .inl (T 0, 4096, .inl (fun j => Int32.ofInt (z0 (j : Int)))) := by
  rw [went_0 (a := 66) (n := 4096) rfl, show Mx0 66 = z0 from rfl]
theorem mc_54 : (List.range (cN 8)).map (fun j => some (fcode Mx0 54 j (cTy 8 j))) = [some (.inr 5), some (.inr 32), some (.inl (.inl (-1))), some (.inl (.inl (-1))), some (.inl (.inl (-1))), some (.inl (.inl (-1))), some (.inl (.inl (-1)))] := by decide +kernel
theorem we_54 (T : Nat → ClassId) (ad : Nat → Nat) : went T ad Mx0 54 = .inr (8, [.ref (ad 5), .ref (ad 32), .int (Int32.ofInt (-1)), .int (Int32.ofInt (-1)), .int (Int32.ofInt (-1)), .int (Int32.ofInt (-1)), .int (Int32.ofInt (-1))]) := by
  rw [went_obj (a := 54) (w := 18) (n := 0) rfl (by decide), flds_code, show 18 - 10 = 8 from rfl, mc_54]
  rfl
theorem xW (T : Nat → ClassId) (ad : Nat → Nat) : wld T ad Mx0 SB = [(ad 0, .inr (11, [.ref (ad 1), .ref (ad 4), .ref (ad 13), .ref (ad 32), .ref (ad 34), .ref (ad 43), .ref (ad 45), .ref (ad 46), .ref (ad 49), .ref (ad 53), .int (Int32.ofInt 0), .int (Int32.ofInt (-1))])), (ad 1, .inr (9, [.ref (ad 2), .int (Int32.ofInt 0), .ref (ad 3), .int (Int32.ofInt 0), .int (Int32.ofInt 0), .int (Int32.ofInt 0), .int (Int32.ofInt 0), .int (Int32.ofInt 0), .int (Int32.ofInt 0), .int (Int32.ofInt 0), .int (Int32.ofInt 0)])), (ad 2, .inl (T 0, 940, .inl (fun j => Int32.ofInt (z0 (j : Int))))), (ad 3, .inl (T 0, 17, .inl (fun j => Int32.ofInt (wcF (j : Int))))), (ad 5, .inr (3, [.int (Int32.ofInt 0), .int (Int32.ofInt 0), .int (Int32.ofInt 0), .int (Int32.ofInt 3), .int (Int32.ofInt 3), .int (Int32.ofInt 5), .int (Int32.ofInt 3), .int (Int32.ofInt 10), .ref (ad 6), .ref (ad 7), .ref (ad 8), .ref (ad 9), .ref (ad 10)])), (ad 6, .inl (T 0, 24, .inl (fun j => Int32.ofInt (z0 (j : Int))))), (ad 7, .inl (T 0, 49, .inl (fun j => Int32.ofInt (z0 (j : Int))))), (ad 8, .inl (T 0, 36, .inl (fun j => Int32.ofInt (z0 (j : Int))))), (ad 9, .inl (T 0, 8, .inl (fun j => Int32.ofInt (z0 (j : Int))))), (ad 10, .inl (T 0, 9, .inl (fun j => Int32.ofInt (z0 (j : Int))))), (ad 12, .inl (T 0, 240, .inl (fun j => Int32.ofInt (z0 (j : Int))))), (ad 11, .inl (T 0, 24, .inl (fun j => Int32.ofInt (m1 (j : Int))))), (ad 13, went T ad Mx0 13), (ad 14, .inr (7, [.ref (ad 15), .ref (ad 21), .ref (ad 22), .int (Int32.ofInt 0), .int (Int32.ofInt 0), .int (Int32.ofInt 0)])), (ad 15, .inr (3, [.int (Int32.ofInt 0), .int (Int32.ofInt 0), .int (Int32.ofInt 0), .int (Int32.ofInt 3), .int (Int32.ofInt 3), .int (Int32.ofInt 5), .int (Int32.ofInt 3), .int (Int32.ofInt 10), .ref (ad 16), .ref (ad 17), .ref (ad 18), .ref (ad 19), .ref (ad 20)])), (ad 16, .inl (T 0, 24, .inl (fun j => Int32.ofInt (z0 (j : Int))))), (ad 17, .inl (T 0, 49, .inl (fun j => Int32.ofInt (z0 (j : Int))))), (ad 18, .inl (T 0, 36, .inl (fun j => Int32.ofInt (z0 (j : Int))))), (ad 19, .inl (T 0, 8, .inl (fun j => Int32.ofInt (z0 (j : Int))))), (ad 20, .inl (T 0, 9, .inl (fun j => Int32.ofInt (z0 (j : Int))))), (ad 22, .inl (T 0, 240, .inl (fun j => Int32.ofInt (z0 (j : Int))))), (ad 21, .inl (T 0, 24, .inl (fun j => Int32.ofInt (m1 (j : Int))))), (ad 23, .inr (7, [.ref (ad 24), .ref (ad 30), .ref (ad 31), .int (Int32.ofInt 0), .int (Int32.ofInt 0), .int (Int32.ofInt 0)])), (ad 24, .inr (3, [.int (Int32.ofInt 0), .int (Int32.ofInt 0), .int (Int32.ofInt 0), .int (Int32.ofInt 3), .int (Int32.ofInt 3), .int (Int32.ofInt 5), .int (Int32.ofInt 3), .int (Int32.ofInt 10), .ref (ad 25), .ref (ad 26), .ref (ad 27), .ref (ad 28), .ref (ad 29)])), (ad 25, .inl (T 0, 24, .inl (fun j => Int32.ofInt (z0 (j : Int))))), (ad 26, .inl (T 0, 49, .inl (fun j => Int32.ofInt (z0 (j : Int))))), (ad 27, .inl (T 0, 36, .inl (fun j => Int32.ofInt (z0 (j : Int))))), (ad 28, .inl (T 0, 8, .inl (fun j => Int32.ofInt (z0 (j : Int))))), (ad 29, .inl (T 0, 9, .inl (fun j => Int32.ofInt (z0 (j : Int))))), (ad 31, .inl (T 0, 240, .inl (fun j => Int32.ofInt (z0 (j : Int))))), (ad 30, .inl (T 0, 24, .inl (fun j => Int32.ofInt (m1 (j : Int))))), (ad 32, .inr (0, [.int (Int32.ofInt (MGr 32 ((0 : Nat) : Int))), .int (Int32.ofInt (MGr 32 ((1 : Nat) : Int))), .int (Int32.ofInt (MGr 32 ((2 : Nat) : Int))), .int (Int32.ofInt (MGr 32 ((3 : Nat) : Int))), .int (Int32.ofInt (MGr 32 ((4 : Nat) : Int))), .int (Int32.ofInt (MGr 32 ((5 : Nat) : Int))), .ref (ad 33)])), (ad 33, .inl (T 0, 72, .inl (fun j => Int32.ofInt ((MGr 33) (j : Int))))), (ad 34, .inr (10, [.ref (ad 1), .ref (ad 35), .ref (ad 41), .ref (ad 42), .int (Int32.ofInt 0), .int (Int32.ofInt 0), .int (Int32.ofInt 0)])), (ad 35, .inr (3, [.int (Int32.ofInt 0), .int (Int32.ofInt 0), .int (Int32.ofInt 0), .int (Int32.ofInt 3), .int (Int32.ofInt 3), .int (Int32.ofInt 5), .int (Int32.ofInt 3), .int (Int32.ofInt 10), .ref (ad 36), .ref (ad 37), .ref (ad 38), .ref (ad 39), .ref (ad 40)])), (ad 36, .inl (T 0, 24, .inl (fun j => Int32.ofInt (z0 (j : Int))))), (ad 37, .inl (T 0, 49, .inl (fun j => Int32.ofInt (z0 (j : Int))))), (ad 38, .inl (T 0, 36, .inl (fun j => Int32.ofInt (z0 (j : Int))))), (ad 39, .inl (T 0, 8, .inl (fun j => Int32.ofInt (z0 (j : Int))))), (ad 40, .inl (T 0, 9, .inl (fun j => Int32.ofInt (z0 (j : Int))))), (ad 41, .inl (T 0, 240, .inl (fun j => Int32.ofInt (z0 (j : Int))))), (ad 42, .inl (T 0, 2, .inl (fun j => Int32.ofInt (z0 (j : Int))))), (ad 43, .inr (4, [.ref (ad 4), .ref (ad 5), .ref (ad 32), .ref (ad 44), .int (Int32.ofInt 0), .int (Int32.ofInt 0), .int (Int32.ofInt 0), .int (Int32.ofInt 0), .int (Int32.ofInt 0), .int (Int32.ofInt 0)])), (ad 44, .inl (T 0, 7, .inl (fun j => Int32.ofInt (z0 (j : Int))))), (ad 45, .inr (8, [.ref (ad 5), .ref (ad 32), .int (Int32.ofInt (-1)), .int (Int32.ofInt (-1)), .int (Int32.ofInt (-1)), .int (Int32.ofInt (-1)), .int (Int32.ofInt (-1))])), (ad 46, .inr (1, [.ref (ad 4), .ref (ad 5), .ref (ad 32), .ref (ad 43), .ref (ad 47), .ref (ad 48), .int (Int32.ofInt 0), .int (Int32.ofInt 0), .int (Int32.ofInt 0), .int (Int32.ofInt 0), .int (Int32.ofInt 0), .int (Int32.ofInt 0), .int (Int32.ofInt 0), .int (Int32.ofInt 0), .int (Int32.ofInt 0), .int (Int32.ofInt 0), .int (Int32.ofInt 0), .int (Int32.ofInt 0)])), (ad 4, .inr (7, [.ref (ad 5), .ref (ad 11), .ref (ad 12), .int (Int32.ofInt 0), .int (Int32.ofInt 0), .int (Int32.ofInt 0)])), (ad 48, .inl (T 0, 24, .inl (fun j => Int32.ofInt (z0 (j : Int))))), (ad 47, .inr (8, [.ref (ad 5), .ref (ad 32), .int (Int32.ofInt (-1)), .int (Int32.ofInt (-1)), .int (Int32.ofInt (-1)), .int (Int32.ofInt (-1)), .int (Int32.ofInt (-1))])), (ad 49, .inr (6, [.ref (ad 5), .ref (ad 32), .ref (ad 43), .ref (ad 50), .ref (ad 51), .ref (ad 52), .int (Int32.ofInt 0)])), (ad 50, .inl (T 0, 6, .inl (fun j => Int32.ofInt (z0 (j : Int))))), (ad 51, .inl (T 0, 24, .inl (fun j => Int32.ofInt (z0 (j : Int))))), (ad 52, .inl (T 0, 24, .inl (fun j => Int32.ofInt (z0 (j : Int))))), (ad 53, .inr (5, [.ref (ad 5), .ref (ad 32), .ref (ad 43), .ref (ad 54), .ref (ad 55), .ref (ad 59), .ref (ad 60), .ref (ad 61), .int (Int32.ofInt 0), .ref (ad 62), .ref (ad 63), .ref (ad 64), .ref (ad 65), .ref (ad 66), .int (Int32.ofInt 0), .int (Int32.ofInt 0), .int (Int32.ofInt 0)])), (ad 55, .inr (2, [.int (Int32.ofInt 0), .ref (ad 56), .ref (ad 57), .ref (ad 58)])), (ad 56, .inl (T 0, 1045, .inl (fun j => Int32.ofInt (z0 (j : Int))))), (ad 57, .inl (T 0, 1045, .inl (fun j => Int32.ofInt (z0 (j : Int))))), (ad 58, .inl (T 0, 1045, .inl (fun j => Int32.ofInt (z0 (j : Int))))), (ad 59, .inl (T 0, 4, .inl (fun j => Int32.ofInt (z0 (j : Int))))), (ad 60, .inl (T 0, 4, .inl (fun j => Int32.ofInt (z0 (j : Int))))), (ad 61, .inl (T 0, 4, .inl (fun j => Int32.ofInt (z0 (j : Int))))), (ad 62, .inl (T 0, 1152, .inl (fun j => Int32.ofInt (z0 (j : Int))))), (ad 63, .inl (T 0, 1045, .inl (fun j => Int32.ofInt (z0 (j : Int))))), (ad 64, .inl (T 0, 24, .inl (fun j => Int32.ofInt (z0 (j : Int))))), (ad 65, .inl (T 0, 4096, .inl (fun j => Int32.ofInt (z0 (j : Int))))), (ad 66, .inl (T 0, 4096, .inl (fun j => Int32.ofInt (z0 (j : Int))))), (ad 54, .inr (8, [.ref (ad 5), .ref (ad 32), .int (Int32.ofInt (-1)), .int (Int32.ofInt (-1)), .int (Int32.ofInt (-1)), .int (Int32.ofInt (-1)), .int (Int32.ofInt (-1))]))] := by
  unfold wld SB
  simp only [List.map_cons, List.map_nil]
  rw [we_0, we_1, we_2, we_3, we_5, we_6, we_7, we_8, we_9, we_10, we_12, we_11, we_14, we_15, we_16, we_17, we_18, we_19, we_20, we_22, we_21, we_23, we_24, we_25, we_26, we_27, we_28, we_29, we_31, we_30, we_32, we_33, we_34, we_35, we_36, we_37, we_38, we_39, we_40, we_41, we_42, we_43, we_44, we_45, we_46, we_4, we_48, we_47, we_49, we_50, we_51, we_52, we_53, we_55, we_56, we_57, we_58, we_59, we_60, we_61, we_62, we_63, we_64, we_65, we_66, we_54]
theorem kept_at {D : va_G} {T : Nat → ClassId} {ad : Nat → Nat} {H : Heap} {a q1 q2 : Nat} (h1 : ad 14 = q1) (h2 : ad 23 = q2) (h : va_at D classes (a, .inl (T 4, 2, .inr (.inr (.inr (.inr (va_up (va_up (fun _ => none) (0 : Int).toNat (some q1)) (1 : Int).toNat (some q2))))))) H) : va_at D classes (a, went T ad Mx0 13) H := by
  have e : vp_cell (T 4) (2, .inr (.inr (.inr (.inr (va_up (va_up (fun _ => none) (0 : Int).toNat (some q1)) (1 : Int).toNat (some q2)))))) = vp_cell (T 4) (2, .inr (.inr (.inr (.inr (fun j => some (ad (rfs 13 j).2.2)))))) := by
    rw [vp_cell_q, vp_cell_q]
    unfold arrV
    congr 1
    congr 1
    funext j
    match j with
    | ⟨0, _⟩ => show va_rf (some q1) = va_rf (some (ad 14)); rw [h1]
    | ⟨1, _⟩ => show va_rf (some q2) = va_rf (some (ad 23)); rw [h2]
  have h' : H[a]? = some (vp_cell (T 4) (2, .inr (.inr (.inr (.inr (va_up (va_up (fun _ => none) (0 : Int).toNat (some q1)) (1 : Int).toNat (some q2))))))) := h
  rw [e] at h'
  exact h'
theorem P_put {D : va_G} {ws : va_W} {H : Heap} {i a : Nat} {e e' : va_E} (hP : va_P D classes ws H) (hi : ws[i]? = some (a, e)) (h : va_at D classes (a, e) H → va_at D classes (a, e') H) : va_P D classes (ws.set i (a, e')) H := by
  intro k q hq
  rw [List.getElem?_set] at hq
  by_cases hk : i = k
  · rw [if_pos hk] at hq
    split at hq
    · cases hq
      exact h (hP i _ hi)
    · cases hq
  · rw [if_neg hk] at hq
    exact hP k q hq
theorem D_put {A : Nat → Prop} {ws : va_W} {i a : Nat} {e e' : va_E} (hD : va_D A ws) (hi : ws[i]? = some (a, e)) : va_D A (ws.set i (a, e')) := by
  have key : ∀ (k : Nat) (q : Nat × va_E), (ws.set i (a, e'))[k]? = some q → ∃ q', ws[k]? = some q' ∧ q'.1 = q.1 := by
    intro k q hq
    rw [List.getElem?_set] at hq
    by_cases hk : i = k
    · rw [if_pos hk] at hq
      split at hq
      · cases hq
        exact ⟨(a, e), by rw [← hk]; exact hi, rfl⟩
      · cases hq
    · rw [if_neg hk] at hq
      exact ⟨q, hq, rfl⟩
  refine ⟨fun i2 j2 p q hp hq hpq => ?_, fun k q hq => ?_⟩
  · obtain ⟨p', h1, h2⟩ := key i2 p hp
    obtain ⟨q', h3, h4⟩ := key j2 q hq
    exact hD.1 i2 j2 p' q' h1 h3 (h2.trans (hpq.trans h4.symm))
  · obtain ⟨q', h3, h4⟩ := key k q hq
    rw [← h4]
    exact hD.2 k q' h3
