def VX8 (E : xE) (h : Nat) (q0 : Nat) : va_W := [ob h 7 [.ref q0, .int 0, .int 0, .int 0, .int 0], iA E q0 260 (fun _ => 0)]
def VX2 (E : xE) (h : Nat) (q0 q1 : Nat) : va_W := [ob h 2 [.int 0, .ref q0, .ref q1], iA E q0 8 (fun _ => 0), iA E q1 8 (fun _ => 0)]
def VX5 (E : xE) (h : Nat) (q0 q1 q2 q3 : Nat) : va_W := [ob h 4 [.int 0, .ref q0, .ref q1, .ref q2, .ref q3], iA E q0 8 (fun _ => 0), iA E q1 8 (fun _ => 0), iA E q2 8 (fun _ => 0), iA E q3 8 (fun _ => 0)]
def VX1 (E : xE) (h : Nat) (q0 q1 q2 q3 q4 q5 : Nat) : va_W := [ob h 1 [.int 0, .ref q0, .ref q1, .ref q2, .ref q3, .ref q4, .ref q5], iA E q0 48 (fun _ => 0), iA E q1 48 (fun _ => 0), iA E q2 48 (fun _ => 0), iA E q3 48 (fun _ => 0), iA E q4 48 (fun _ => 0), iA E q5 48 (fun _ => 0)]
def VX10 (E : xE) (h : Nat) (q0 q1 q2 q3 q4 : Nat) : va_W := [ob h 9 [.int 0, .ref q0, .ref q1, .ref q2, .ref q3, .ref q4], iA E q0 8 (fun _ => 0), iA E q1 8 (fun _ => 0), iA E q2 8 (fun _ => 0), iA E q3 8 (fun _ => 0), iA E q4 8 (fun _ => 0)]
def VX3 (E : xE) (h : Nat) (q0 q1 q2 q3 q4 q5 q6 : Nat) : va_W := [ob h 3 [.int 0, .ref q0, .ref q1, .ref q2, .ref q3, .int 0, .ref q4, .ref q5, .ref q6, .int 0], iA E q0 16 (fun _ => 0), iA E q1 16 (fun _ => 0), iA E q2 16 (fun _ => 0), iA E q3 16 (fun _ => 0), iA E q4 240 (fun _ => 0), iA E q5 11 (fun _ => 0), iA E q6 64 (fun _ => 0)]
def VX0 (E : xE) (h : Nat) (q0 q1 q2 q3 : Nat) : va_W := [ob h 0 [.int 0, .ref q0, .ref q1, .ref q2, .ref q3, .int 0], iA E q0 24 (fun _ => 0), iA E q1 24 (fun _ => 0), iA E q2 25 (fun _ => 0), iA E q3 140 (fun _ => 0)]
def VX6 (E : xE) (h : Nat) (q0 q1 q2 q3 q4 q5 q6 q7 q8 q9 : Nat) : va_W := [ob h 5 [.ref q0, .ref q1, .int 0, .int 0, .ref q2, .ref q3, .ref q4, .ref q5, .ref q6, .ref q7, .ref q8, .ref q9, .int (-1)], iA E q0 10 (fun _ => 0), iA E q1 10 (fun _ => 0), iA E q2 4 (fun _ => 0), iA E q3 4 (fun _ => 0), iA E q4 1008 (fun _ => 0), iA E q5 4 (fun _ => 0), iA E q6 4 (fun _ => 0), iA E q7 55 (fun _ => 0), iA E q8 4 (fun _ => 0), iA E q9 4 (fun _ => 0)]
def VX7 (E : xE) (h : Nat) (q0 : Nat) : va_W := [ob h 6 [.int 0, .int (-2), .int (-2), .ref q0, .int 0], iA E q0 12 (fun _ => 0)]
def VX9 (E : xE) (h : Nat) (a1 a2 a3 a4 a5 a6 a7 a8 a9 a10 a11 a12 a13 a14 a15 a16 a17 a18 a19 a20 a21 : Nat) : va_W := (ob h 8 [.int 0, .int 1, .ref a1, .ref a4, .ref a9, .ref a16, .int 0, .int 0, .int 0, .int 0]) :: (((([] ++ VX2 E a1 a2 a3) ++ VX5 E a4 a5 a6 a7 a8) ++ VX1 E a9 a10 a11 a12 a13 a14 a15) ++ VX10 E a16 a17 a18 a19 a20 a21)
def VX11 (E : xE) (h : Nat) (b1 b2 b3 b4 b5 b6 b7 b8 b9 b10 b11 b12 b13 b14 b15 b16 b17 b18 b19 b20 b21 b22 b23 b24 b25 b26 b27 b28 b29 b30 b31 b32 b33 b34 b35 b36 b37 b38 b39 b40 b41 b42 b43 b44 b45 b46 b47 b48 b49 b50 b51 b52 b53 b54 b55 b56 b57 b58 b59 b60 b61 b62 b63 b64 b65 b66 b67 b68 b69 b70 b71 b72 b73 b74 b75 b76 b77 b78 b79 b80 b81 b82 b83 b84 b85 b86 b87 b88 b89 b90 b91 b92 b93 b94 b95 b96 b97 b98 b99 b100 b101 b102 b103 b104 b105 b106 b107 b108 b109 b110 b111 b112 : Nat) : va_W := (ob h 10 [.ref b1, .ref b3, .ref b5, .ref b27, .ref b49, .int 0, .ref b71, .ref b79, .ref b87, .ref b92, .ref b103, .ref b105, .ref b106, .ref b107, .ref b108, .ref b109, .ref b110, .ref b111, .ref b112]) :: (((((((((((((((((([] ++ VX8 E b1 b2) ++ VX8 E b3 b4) ++ VX9 E b5 b6 b7 b8 b9 b10 b11 b12 b13 b14 b15 b16 b17 b18 b19 b20 b21 b22 b23 b24 b25 b26) ++ VX9 E b27 b28 b29 b30 b31 b32 b33 b34 b35 b36 b37 b38 b39 b40 b41 b42 b43 b44 b45 b46 b47 b48) ++ VX9 E b49 b50 b51 b52 b53 b54 b55 b56 b57 b58 b59 b60 b61 b62 b63 b64 b65 b66 b67 b68 b69 b70) ++ VX3 E b71 b72 b73 b74 b75 b76 b77 b78) ++ VX3 E b79 b80 b81 b82 b83 b84 b85 b86) ++ VX0 E b87 b88 b89 b90 b91) ++ VX6 E b92 b93 b94 b95 b96 b97 b98 b99 b100 b101 b102) ++ VX7 E b103 b104) ++ [iA E b105 48 (fun _ => 0)]) ++ [iA E b106 48 (fun _ => 0)]) ++ [iA E b107 40 (fun _ => 0)]) ++ [iA E b108 21 (fun _ => 0)]) ++ [iA E b109 3 (fun _ => 0)]) ++ [iA E b110 8 (fun _ => 0)]) ++ [iA E b111 8 (fun _ => 0)]) ++ [iA E b112 7 (fun _ => 0)])
def VF11 (E : xE) (h : Nat) (b1 b2 b3 b4 b5 b6 b7 b8 b9 b10 b11 b12 b13 b14 b15 b16 b17 b18 b19 b20 b21 b22 b23 b24 b25 b26 b27 b28 b29 b30 b31 b32 b33 b34 b35 b36 b37 b38 b39 b40 b41 b42 b43 b44 b45 b46 b47 b48 b49 b50 b51 b52 b53 b54 b55 b56 b57 b58 b59 b60 b61 b62 b63 b64 b65 b66 b67 b68 b69 b70 b71 b72 b73 b74 b75 b76 b77 b78 b79 b80 b81 b82 b83 b84 b85 b86 b87 b88 b89 b90 b91 b92 b93 b94 b95 b96 b97 b98 b99 b100 b101 b102 b103 b104 b105 b106 b107 b108 b109 b110 b111 b112 : Nat) : va_W := [ob h 10 [.ref b1, .ref b3, .ref b5, .ref b27, .ref b49, .int 0, .ref b71, .ref b79, .ref b87, .ref b92, .ref b103, .ref b105, .ref b106, .ref b107, .ref b108, .ref b109, .ref b110, .ref b111, .ref b112], ob b1 7 [.ref b2, .int 0, .int 0, .int 0, .int 0], iA E b2 260 (fun _ => 0), ob b3 7 [.ref b4, .int 0, .int 0, .int 0, .int 0], iA E b4 260 (fun _ => 0), ob b5 8 [.int 0, .int 1, .ref b6, .ref b9, .ref b14, .ref b21, .int 0, .int 0, .int 0, .int 0], ob b6 2 [.int 0, .ref b7, .ref b8], iA E b7 8 (fun _ => 0), iA E b8 8 (fun _ => 0), ob b9 4 [.int 0, .ref b10, .ref b11, .ref b12, .ref b13], iA E b10 8 (fun _ => 0), iA E b11 8 (fun _ => 0), iA E b12 8 (fun _ => 0), iA E b13 8 (fun _ => 0), ob b14 1 [.int 0, .ref b15, .ref b16, .ref b17, .ref b18, .ref b19, .ref b20], iA E b15 48 (fun _ => 0), iA E b16 48 (fun _ => 0), iA E b17 48 (fun _ => 0), iA E b18 48 (fun _ => 0), iA E b19 48 (fun _ => 0), iA E b20 48 (fun _ => 0), ob b21 9 [.int 0, .ref b22, .ref b23, .ref b24, .ref b25, .ref b26], iA E b22 8 (fun _ => 0), iA E b23 8 (fun _ => 0), iA E b24 8 (fun _ => 0), iA E b25 8 (fun _ => 0), iA E b26 8 (fun _ => 0), ob b27 8 [.int 0, .int 1, .ref b28, .ref b31, .ref b36, .ref b43, .int 0, .int 0, .int 0, .int 0], ob b28 2 [.int 0, .ref b29, .ref b30], iA E b29 8 (fun _ => 0), iA E b30 8 (fun _ => 0), ob b31 4 [.int 0, .ref b32, .ref b33, .ref b34, .ref b35], iA E b32 8 (fun _ => 0), iA E b33 8 (fun _ => 0), iA E b34 8 (fun _ => 0), iA E b35 8 (fun _ => 0), ob b36 1 [.int 0, .ref b37, .ref b38, .ref b39, .ref b40, .ref b41, .ref b42], iA E b37 48 (fun _ => 0), iA E b38 48 (fun _ => 0), iA E b39 48 (fun _ => 0), iA E b40 48 (fun _ => 0), iA E b41 48 (fun _ => 0), iA E b42 48 (fun _ => 0), ob b43 9 [.int 0, .ref b44, .ref b45, .ref b46, .ref b47, .ref b48], iA E b44 8 (fun _ => 0), iA E b45 8 (fun _ => 0), iA E b46 8 (fun _ => 0), iA E b47 8 (fun _ => 0), iA E b48 8 (fun _ => 0), ob b49 8 [.int 0, .int 1, .ref b50, .ref b53, .ref b58, .ref b65, .int 0, .int 0, .int 0, .int 0], ob b50 2 [.int 0, .ref b51, .ref b52], iA E b51 8 (fun _ => 0), iA E b52 8 (fun _ => 0), ob b53 4 [.int 0, .ref b54, .ref b55, .ref b56, .ref b57], iA E b54 8 (fun _ => 0), iA E b55 8 (fun _ => 0), iA E b56 8 (fun _ => 0), iA E b57 8 (fun _ => 0), ob b58 1 [.int 0, .ref b59, .ref b60, .ref b61, .ref b62, .ref b63, .ref b64], iA E b59 48 (fun _ => 0), iA E b60 48 (fun _ => 0), iA E b61 48 (fun _ => 0), iA E b62 48 (fun _ => 0), iA E b63 48 (fun _ => 0), iA E b64 48 (fun _ => 0), ob b65 9 [.int 0, .ref b66, .ref b67, .ref b68, .ref b69, .ref b70], iA E b66 8 (fun _ => 0), iA E b67 8 (fun _ => 0), iA E b68 8 (fun _ => 0), iA E b69 8 (fun _ => 0), iA E b70 8 (fun _ => 0), ob b71 3 [.int 0, .ref b72, .ref b73, .ref b74, .ref b75, .int 0, .ref b76, .ref b77, .ref b78, .int 0], iA E b72 16 (fun _ => 0), iA E b73 16 (fun _ => 0), iA E b74 16 (fun _ => 0), iA E b75 16 (fun _ => 0), iA E b76 240 (fun _ => 0), iA E b77 11 (fun _ => 0), iA E b78 64 (fun _ => 0), ob b79 3 [.int 0, .ref b80, .ref b81, .ref b82, .ref b83, .int 0, .ref b84, .ref b85, .ref b86, .int 0], iA E b80 16 (fun _ => 0), iA E b81 16 (fun _ => 0), iA E b82 16 (fun _ => 0), iA E b83 16 (fun _ => 0), iA E b84 240 (fun _ => 0), iA E b85 11 (fun _ => 0), iA E b86 64 (fun _ => 0), ob b87 0 [.int 0, .ref b88, .ref b89, .ref b90, .ref b91, .int 0], iA E b88 24 (fun _ => 0), iA E b89 24 (fun _ => 0), iA E b90 25 (fun _ => 0), iA E b91 140 (fun _ => 0), ob b92 5 [.ref b93, .ref b94, .int 0, .int 0, .ref b95, .ref b96, .ref b97, .ref b98, .ref b99, .ref b100, .ref b101, .ref b102, .int (-1)], iA E b93 10 (fun _ => 0), iA E b94 10 (fun _ => 0), iA E b95 4 (fun _ => 0), iA E b96 4 (fun _ => 0), iA E b97 1008 (fun _ => 0), iA E b98 4 (fun _ => 0), iA E b99 4 (fun _ => 0), iA E b100 55 (fun _ => 0), iA E b101 4 (fun _ => 0), iA E b102 4 (fun _ => 0), ob b103 6 [.int 0, .int (-2), .int (-2), .ref b104, .int 0], iA E b104 12 (fun _ => 0), iA E b105 48 (fun _ => 0), iA E b106 48 (fun _ => 0), iA E b107 40 (fun _ => 0), iA E b108 21 (fun _ => 0), iA E b109 3 (fun _ => 0), iA E b110 8 (fun _ => 0), iA E b111 8 (fun _ => 0), iA E b112 7 (fun _ => 0)]
set_option maxRecDepth 20000 in
theorem VF11_eq (E : xE) (h : Nat) (b1 b2 b3 b4 b5 b6 b7 b8 b9 b10 b11 b12 b13 b14 b15 b16 b17 b18 b19 b20 b21 b22 b23 b24 b25 b26 b27 b28 b29 b30 b31 b32 b33 b34 b35 b36 b37 b38 b39 b40 b41 b42 b43 b44 b45 b46 b47 b48 b49 b50 b51 b52 b53 b54 b55 b56 b57 b58 b59 b60 b61 b62 b63 b64 b65 b66 b67 b68 b69 b70 b71 b72 b73 b74 b75 b76 b77 b78 b79 b80 b81 b82 b83 b84 b85 b86 b87 b88 b89 b90 b91 b92 b93 b94 b95 b96 b97 b98 b99 b100 b101 b102 b103 b104 b105 b106 b107 b108 b109 b110 b111 b112 : Nat) : VX11 E h b1 b2 b3 b4 b5 b6 b7 b8 b9 b10 b11 b12 b13 b14 b15 b16 b17 b18 b19 b20 b21 b22 b23 b24 b25 b26 b27 b28 b29 b30 b31 b32 b33 b34 b35 b36 b37 b38 b39 b40 b41 b42 b43 b44 b45 b46 b47 b48 b49 b50 b51 b52 b53 b54 b55 b56 b57 b58 b59 b60 b61 b62 b63 b64 b65 b66 b67 b68 b69 b70 b71 b72 b73 b74 b75 b76 b77 b78 b79 b80 b81 b82 b83 b84 b85 b86 b87 b88 b89 b90 b91 b92 b93 b94 b95 b96 b97 b98 b99 b100 b101 b102 b103 b104 b105 b106 b107 b108 b109 b110 b111 b112 = VF11 E h b1 b2 b3 b4 b5 b6 b7 b8 b9 b10 b11 b12 b13 b14 b15 b16 b17 b18 b19 b20 b21 b22 b23 b24 b25 b26 b27 b28 b29 b30 b31 b32 b33 b34 b35 b36 b37 b38 b39 b40 b41 b42 b43 b44 b45 b46 b47 b48 b49 b50 b51 b52 b53 b54 b55 b56 b57 b58 b59 b60 b61 b62 b63 b64 b65 b66 b67 b68 b69 b70 b71 b72 b73 b74 b75 b76 b77 b78 b79 b80 b81 b82 b83 b84 b85 b86 b87 b88 b89 b90 b91 b92 b93 b94 b95 b96 b97 b98 b99 b100 b101 b102 b103 b104 b105 b106 b107 b108 b109 b110 b111 b112 := by
  simp only [VX11, VF11, VX8, VX9, VX3, VX2, VX5, VX1, VX10, VX0, VX6, VX7, List.nil_append, List.cons_append]
def adX (h : Nat) (b1 b2 b3 b4 b5 b6 b7 b8 b9 b10 b11 b12 b13 b14 b15 b16 b17 b18 b19 b20 b21 b22 b23 b24 b25 b26 b27 b28 b29 b30 b31 b32 b33 b34 b35 b36 b37 b38 b39 b40 b41 b42 b43 b44 b45 b46 b47 b48 b49 b50 b51 b52 b53 b54 b55 b56 b57 b58 b59 b60 b61 b62 b63 b64 b65 b66 b67 b68 b69 b70 b71 b72 b73 b74 b75 b76 b77 b78 b79 b80 b81 b82 b83 b84 b85 b86 b87 b88 b89 b90 b91 b92 b93 b94 b95 b96 b97 b98 b99 b100 b101 b102 b103 b104 b105 b106 b107 b108 b109 b110 b111 b112 : Nat) : Nat → Nat := fun k => ([h, b1, b2, b3, b4, b5, b6, b7, b8, b9, b10, b11, b12, b13, b14, b15, b16, b17, b18, b19, b20, b21, b22, b23, b24, b25, b26, b27, b28, b29, b30, b31, b32, b33, b34, b35, b36, b37, b38, b39, b40, b41, b42, b43, b44, b45, b46, b47, b48, b49, b50, b51, b52, b53, b54, b55, b56, b57, b58, b59, b60, b61, b62, b63, b64, b65, b66, b67, b68, b69, b70, b71, b72, b73, b74, b75, b76, b77, b78, b79, b80, b81, b82, b83, b84, b85, b86, b87, b88, b89, b90, b91, b92, b93, b94, b95, b96, b97, b98, b99, b100, b101, b102, b103, b104, b105, b106, b107, b108, b109, b110, b111, b112] : List Nat).getD k 0
set_option maxRecDepth 20000 in
theorem VF11_ok (E : xE) (h : Nat) (b1 b2 b3 b4 b5 b6 b7 b8 b9 b10 b11 b12 b13 b14 b15 b16 b17 b18 b19 b20 b21 b22 b23 b24 b25 b26 b27 b28 b29 b30 b31 b32 b33 b34 b35 b36 b37 b38 b39 b40 b41 b42 b43 b44 b45 b46 b47 b48 b49 b50 b51 b52 b53 b54 b55 b56 b57 b58 b59 b60 b61 b62 b63 b64 b65 b66 b67 b68 b69 b70 b71 b72 b73 b74 b75 b76 b77 b78 b79 b80 b81 b82 b83 b84 b85 b86 b87 b88 b89 b90 b91 b92 b93 b94 b95 b96 b97 b98 b99 b100 b101 b102 b103 b104 b105 b106 b107 b108 b109 b110 b111 b112 : Nat) : ∀ (k : Nat) (P : Nat × va_E → Prop), (okX E (adX h b1 b2 b3 b4 b5 b6 b7 b8 b9 b10 b11 b12 b13 b14 b15 b16 b17 b18 b19 b20 b21 b22 b23 b24 b25 b26 b27 b28 b29 b30 b31 b32 b33 b34 b35 b36 b37 b38 b39 b40 b41 b42 b43 b44 b45 b46 b47 b48 b49 b50 b51 b52 b53 b54 b55 b56 b57 b58 b59 b60 b61 b62 b63 b64 b65 b66 b67 b68 b69 b70 b71 b72 b73 b74 b75 b76 b77 b78 b79 b80 b81 b82 b83 b84 b85 b86 b87 b88 b89 b90 b91 b92 b93 b94 b95 b96 b97 b98 b99 b100 b101 b102 b103 b104 b105 b106 b107 b108 b109 b110 b111 b112))[k]? = some P → ∃ c, (VF11 E h b1 b2 b3 b4 b5 b6 b7 b8 b9 b10 b11 b12 b13 b14 b15 b16 b17 b18 b19 b20 b21 b22 b23 b24 b25 b26 b27 b28 b29 b30 b31 b32 b33 b34 b35 b36 b37 b38 b39 b40 b41 b42 b43 b44 b45 b46 b47 b48 b49 b50 b51 b52 b53 b54 b55 b56 b57 b58 b59 b60 b61 b62 b63 b64 b65 b66 b67 b68 b69 b70 b71 b72 b73 b74 b75 b76 b77 b78 b79 b80 b81 b82 b83 b84 b85 b86 b87 b88 b89 b90 b91 b92 b93 b94 b95 b96 b97 b98 b99 b100 b101 b102 b103 b104 b105 b106 b107 b108 b109 b110 b111 b112)[k]? = some c ∧ P c
  | 0, _, hP => ⟨_, rfl, some_at hP rfl ⟨_, rfl⟩⟩
  | 1, _, hP => ⟨_, rfl, some_at hP rfl ⟨0, _, _, _, Nat.zero_le _, rfl⟩⟩
  | 2, _, hP => ⟨_, rfl, some_at hP rfl ⟨_, rfl⟩⟩
  | 3, _, hP => ⟨_, rfl, some_at hP rfl ⟨0, _, _, _, Nat.zero_le _, rfl⟩⟩
  | 4, _, hP => ⟨_, rfl, some_at hP rfl ⟨_, rfl⟩⟩
  | 5, _, hP => ⟨_, rfl, some_at hP rfl ⟨0, _, _, _, _, _, Nat.zero_le _, rfl⟩⟩
  | 6, _, hP => ⟨_, rfl, some_at hP rfl ⟨_, rfl⟩⟩
  | 7, _, hP => ⟨_, rfl, some_at hP rfl ⟨_, rfl⟩⟩
  | 8, _, hP => ⟨_, rfl, some_at hP rfl ⟨fun _ => 0, fun _ => Nat.zero_le _, rfl⟩⟩
  | 9, _, hP => ⟨_, rfl, some_at hP rfl ⟨_, rfl⟩⟩
  | 10, _, hP => ⟨_, rfl, some_at hP rfl ⟨_, rfl⟩⟩
  | 11, _, hP => ⟨_, rfl, some_at hP rfl ⟨_, rfl⟩⟩
  | 12, _, hP => ⟨_, rfl, some_at hP rfl ⟨_, rfl⟩⟩
  | 13, _, hP => ⟨_, rfl, some_at hP rfl ⟨_, rfl⟩⟩
  | 14, _, hP => ⟨_, rfl, some_at hP rfl ⟨0, Nat.zero_le _, rfl⟩⟩
  | 15, _, hP => ⟨_, rfl, some_at hP rfl ⟨_, rfl⟩⟩
  | 16, _, hP => ⟨_, rfl, some_at hP rfl ⟨fun _ => 0, fun _ => Nat.zero_le _, rfl⟩⟩
  | 17, _, hP => ⟨_, rfl, some_at hP rfl ⟨_, rfl⟩⟩
  | 18, _, hP => ⟨_, rfl, some_at hP rfl ⟨fun _ => 0, fun _ => Nat.zero_le _, rfl⟩⟩
  | 19, _, hP => ⟨_, rfl, some_at hP rfl ⟨_, rfl⟩⟩
  | 20, _, hP => ⟨_, rfl, some_at hP rfl ⟨_, rfl⟩⟩
  | 21, _, hP => ⟨_, rfl, some_at hP rfl ⟨_, rfl⟩⟩
  | 22, _, hP => ⟨_, rfl, some_at hP rfl ⟨_, rfl⟩⟩
  | 23, _, hP => ⟨_, rfl, some_at hP rfl ⟨_, rfl⟩⟩
  | 24, _, hP => ⟨_, rfl, some_at hP rfl ⟨_, rfl⟩⟩
  | 25, _, hP => ⟨_, rfl, some_at hP rfl ⟨_, rfl⟩⟩
  | 26, _, hP => ⟨_, rfl, some_at hP rfl ⟨_, rfl⟩⟩
  | 27, _, hP => ⟨_, rfl, some_at hP rfl ⟨0, _, _, _, _, _, Nat.zero_le _, rfl⟩⟩
  | 28, _, hP => ⟨_, rfl, some_at hP rfl ⟨_, rfl⟩⟩
  | 29, _, hP => ⟨_, rfl, some_at hP rfl ⟨_, rfl⟩⟩
  | 30, _, hP => ⟨_, rfl, some_at hP rfl ⟨fun _ => 0, fun _ => Nat.zero_le _, rfl⟩⟩
  | 31, _, hP => ⟨_, rfl, some_at hP rfl ⟨_, rfl⟩⟩
  | 32, _, hP => ⟨_, rfl, some_at hP rfl ⟨_, rfl⟩⟩
  | 33, _, hP => ⟨_, rfl, some_at hP rfl ⟨_, rfl⟩⟩
  | 34, _, hP => ⟨_, rfl, some_at hP rfl ⟨_, rfl⟩⟩
  | 35, _, hP => ⟨_, rfl, some_at hP rfl ⟨_, rfl⟩⟩
  | 36, _, hP => ⟨_, rfl, some_at hP rfl ⟨0, Nat.zero_le _, rfl⟩⟩
  | 37, _, hP => ⟨_, rfl, some_at hP rfl ⟨_, rfl⟩⟩
  | 38, _, hP => ⟨_, rfl, some_at hP rfl ⟨fun _ => 0, fun _ => Nat.zero_le _, rfl⟩⟩
  | 39, _, hP => ⟨_, rfl, some_at hP rfl ⟨_, rfl⟩⟩
  | 40, _, hP => ⟨_, rfl, some_at hP rfl ⟨fun _ => 0, fun _ => Nat.zero_le _, rfl⟩⟩
  | 41, _, hP => ⟨_, rfl, some_at hP rfl ⟨_, rfl⟩⟩
  | 42, _, hP => ⟨_, rfl, some_at hP rfl ⟨_, rfl⟩⟩
  | 43, _, hP => ⟨_, rfl, some_at hP rfl ⟨_, rfl⟩⟩
  | 44, _, hP => ⟨_, rfl, some_at hP rfl ⟨_, rfl⟩⟩
  | 45, _, hP => ⟨_, rfl, some_at hP rfl ⟨_, rfl⟩⟩
  | 46, _, hP => ⟨_, rfl, some_at hP rfl ⟨_, rfl⟩⟩
  | 47, _, hP => ⟨_, rfl, some_at hP rfl ⟨_, rfl⟩⟩
  | 48, _, hP => ⟨_, rfl, some_at hP rfl ⟨_, rfl⟩⟩
  | 49, _, hP => ⟨_, rfl, some_at hP rfl ⟨0, _, _, _, _, _, Nat.zero_le _, rfl⟩⟩
  | 50, _, hP => ⟨_, rfl, some_at hP rfl ⟨_, rfl⟩⟩
  | 51, _, hP => ⟨_, rfl, some_at hP rfl ⟨_, rfl⟩⟩
  | 52, _, hP => ⟨_, rfl, some_at hP rfl ⟨fun _ => 0, fun _ => Nat.zero_le _, rfl⟩⟩
  | 53, _, hP => ⟨_, rfl, some_at hP rfl ⟨_, rfl⟩⟩
  | 54, _, hP => ⟨_, rfl, some_at hP rfl ⟨_, rfl⟩⟩
  | 55, _, hP => ⟨_, rfl, some_at hP rfl ⟨_, rfl⟩⟩
  | 56, _, hP => ⟨_, rfl, some_at hP rfl ⟨_, rfl⟩⟩
  | 57, _, hP => ⟨_, rfl, some_at hP rfl ⟨_, rfl⟩⟩
  | 58, _, hP => ⟨_, rfl, some_at hP rfl ⟨0, Nat.zero_le _, rfl⟩⟩
  | 59, _, hP => ⟨_, rfl, some_at hP rfl ⟨_, rfl⟩⟩
  | 60, _, hP => ⟨_, rfl, some_at hP rfl ⟨fun _ => 0, fun _ => Nat.zero_le _, rfl⟩⟩
  | 61, _, hP => ⟨_, rfl, some_at hP rfl ⟨_, rfl⟩⟩
  | 62, _, hP => ⟨_, rfl, some_at hP rfl ⟨fun _ => 0, fun _ => Nat.zero_le _, rfl⟩⟩
  | 63, _, hP => ⟨_, rfl, some_at hP rfl ⟨_, rfl⟩⟩
  | 64, _, hP => ⟨_, rfl, some_at hP rfl ⟨_, rfl⟩⟩
  | 65, _, hP => ⟨_, rfl, some_at hP rfl ⟨_, rfl⟩⟩
  | 66, _, hP => ⟨_, rfl, some_at hP rfl ⟨_, rfl⟩⟩
  | 67, _, hP => ⟨_, rfl, some_at hP rfl ⟨_, rfl⟩⟩
  | 68, _, hP => ⟨_, rfl, some_at hP rfl ⟨_, rfl⟩⟩
  | 69, _, hP => ⟨_, rfl, some_at hP rfl ⟨_, rfl⟩⟩
  | 70, _, hP => ⟨_, rfl, some_at hP rfl ⟨_, rfl⟩⟩
  | 71, _, hP => ⟨_, rfl, some_at hP rfl ⟨_, 0, 0, Nat.zero_le _, Nat.zero_le _, rfl⟩⟩
  | 72, _, hP => ⟨_, rfl, some_at hP rfl ⟨_, rfl⟩⟩
  | 73, _, hP => ⟨_, rfl, some_at hP rfl ⟨_, rfl⟩⟩
  | 74, _, hP => ⟨_, rfl, some_at hP rfl ⟨_, rfl⟩⟩
  | 75, _, hP => ⟨_, rfl, some_at hP rfl ⟨_, rfl⟩⟩
  | 76, _, hP => ⟨_, rfl, some_at hP rfl ⟨_, rfl⟩⟩
  | 77, _, hP => ⟨_, rfl, some_at hP rfl ⟨_, rfl⟩⟩
  | 78, _, hP => ⟨_, rfl, some_at hP rfl ⟨_, rfl⟩⟩
  | 79, _, hP => ⟨_, rfl, some_at hP rfl ⟨_, 0, 0, Nat.zero_le _, Nat.zero_le _, rfl⟩⟩
  | 80, _, hP => ⟨_, rfl, some_at hP rfl ⟨_, rfl⟩⟩
  | 81, _, hP => ⟨_, rfl, some_at hP rfl ⟨_, rfl⟩⟩
  | 82, _, hP => ⟨_, rfl, some_at hP rfl ⟨_, rfl⟩⟩
  | 83, _, hP => ⟨_, rfl, some_at hP rfl ⟨_, rfl⟩⟩
  | 84, _, hP => ⟨_, rfl, some_at hP rfl ⟨_, rfl⟩⟩
  | 85, _, hP => ⟨_, rfl, some_at hP rfl ⟨_, rfl⟩⟩
  | 86, _, hP => ⟨_, rfl, some_at hP rfl ⟨_, rfl⟩⟩
  | 87, _, hP => ⟨_, rfl, some_at hP rfl ⟨0, 0, Nat.zero_le _, Nat.zero_le _, rfl⟩⟩
  | 88, _, hP => ⟨_, rfl, some_at hP rfl ⟨_, rfl⟩⟩
  | 89, _, hP => ⟨_, rfl, some_at hP rfl ⟨_, rfl⟩⟩
  | 90, _, hP => ⟨_, rfl, some_at hP rfl ⟨fun _ => 0, fun _ => Nat.zero_le _, rfl⟩⟩
  | 91, _, hP => ⟨_, rfl, some_at hP rfl ⟨fun _ => 0, fun _ => Nat.zero_le _, rfl⟩⟩
  | 92, _, hP => ⟨_, rfl, some_at hP rfl ⟨0, 0, _, Nat.zero_le _, Nat.zero_le _, rfl⟩⟩
  | 93, _, hP => ⟨_, rfl, some_at hP rfl ⟨fun _ => 0, fun _ => Nat.zero_le _, rfl⟩⟩
  | 94, _, hP => ⟨_, rfl, some_at hP rfl ⟨_, rfl⟩⟩
  | 95, _, hP => ⟨_, rfl, some_at hP rfl ⟨_, rfl⟩⟩
  | 96, _, hP => ⟨_, rfl, some_at hP rfl ⟨_, rfl⟩⟩
  | 97, _, hP => ⟨_, rfl, some_at hP rfl ⟨_, rfl⟩⟩
  | 98, _, hP => ⟨_, rfl, some_at hP rfl ⟨fun _ => 0, fun _ => Nat.zero_le _, rfl⟩⟩
  | 99, _, hP => ⟨_, rfl, some_at hP rfl ⟨fun _ => 0, fun _ => Nat.zero_le _, rfl⟩⟩
  | 100, _, hP => ⟨_, rfl, some_at hP rfl ⟨_, rfl⟩⟩
  | 101, _, hP => ⟨_, rfl, some_at hP rfl ⟨_, rfl⟩⟩
  | 102, _, hP => ⟨_, rfl, some_at hP rfl ⟨_, rfl⟩⟩
  | 103, _, hP => ⟨_, rfl, some_at hP rfl ⟨_, _, _, 0, Nat.zero_le _, rfl⟩⟩
  | 104, _, hP => ⟨_, rfl, some_at hP rfl ⟨_, rfl⟩⟩
  | 105, _, hP => ⟨_, rfl, some_at hP rfl ⟨_, rfl⟩⟩
  | 106, _, hP => ⟨_, rfl, some_at hP rfl ⟨_, rfl⟩⟩
  | 107, _, hP => ⟨_, rfl, some_at hP rfl ⟨_, rfl⟩⟩
  | 108, _, hP => ⟨_, rfl, some_at hP rfl ⟨_, rfl⟩⟩
  | 109, _, hP => ⟨_, rfl, some_at hP rfl ⟨_, rfl⟩⟩
  | 110, _, hP => ⟨_, rfl, some_at hP rfl ⟨_, rfl⟩⟩
  | 111, _, hP => ⟨_, rfl, some_at hP rfl ⟨_, rfl⟩⟩
  | 112, _, hP => ⟨_, rfl, some_at hP rfl ⟨_, rfl⟩⟩
  | n + 113, P, hP => absurd (List.getElem?_eq_some_iff.mp hP).1 (by rw [okX_len]; omega)
theorem VF11_J (E : xE) (h : Nat) (b1 b2 b3 b4 b5 b6 b7 b8 b9 b10 b11 b12 b13 b14 b15 b16 b17 b18 b19 b20 b21 b22 b23 b24 b25 b26 b27 b28 b29 b30 b31 b32 b33 b34 b35 b36 b37 b38 b39 b40 b41 b42 b43 b44 b45 b46 b47 b48 b49 b50 b51 b52 b53 b54 b55 b56 b57 b58 b59 b60 b61 b62 b63 b64 b65 b66 b67 b68 b69 b70 b71 b72 b73 b74 b75 b76 b77 b78 b79 b80 b81 b82 b83 b84 b85 b86 b87 b88 b89 b90 b91 b92 b93 b94 b95 b96 b97 b98 b99 b100 b101 b102 b103 b104 b105 b106 b107 b108 b109 b110 b111 b112 : Nat) : JX (adX h b1 b2 b3 b4 b5 b6 b7 b8 b9 b10 b11 b12 b13 b14 b15 b16 b17 b18 b19 b20 b21 b22 b23 b24 b25 b26 b27 b28 b29 b30 b31 b32 b33 b34 b35 b36 b37 b38 b39 b40 b41 b42 b43 b44 b45 b46 b47 b48 b49 b50 b51 b52 b53 b54 b55 b56 b57 b58 b59 b60 b61 b62 b63 b64 b65 b66 b67 b68 b69 b70 b71 b72 b73 b74 b75 b76 b77 b78 b79 b80 b81 b82 b83 b84 b85 b86 b87 b88 b89 b90 b91 b92 b93 b94 b95 b96 b97 b98 b99 b100 b101 b102 b103 b104 b105 b106 b107 b108 b109 b110 b111 b112) (VF11 E h b1 b2 b3 b4 b5 b6 b7 b8 b9 b10 b11 b12 b13 b14 b15 b16 b17 b18 b19 b20 b21 b22 b23 b24 b25 b26 b27 b28 b29 b30 b31 b32 b33 b34 b35 b36 b37 b38 b39 b40 b41 b42 b43 b44 b45 b46 b47 b48 b49 b50 b51 b52 b53 b54 b55 b56 b57 b58 b59 b60 b61 b62 b63 b64 b65 b66 b67 b68 b69 b70 b71 b72 b73 b74 b75 b76 b77 b78 b79 b80 b81 b82 b83 b84 b85 b86 b87 b88 b89 b90 b91 b92 b93 b94 b95 b96 b97 b98 b99 b100 b101 b102 b103 b104 b105 b106 b107 b108 b109 b110 b111 b112) 0 0 0 0 0 := ⟨rfl, rfl, rfl, rfl, rfl⟩
def FX (E : xE) (h : Nat) (k P H Pk Hk : Int32) (w : va_W) : Prop := ∃ a : Nat → Nat, a 0 = h ∧ WX (okX E a) w ∧ JX a w k P H Pk Hk
def cd0 : Cd := (fun _ => 0, fun _ => 0, fun _ => 0, fun _ => 0, fun _ => 0, 0)
theorem Good_0 : Good cd0 := ⟨Nat.zero_le _, fun q hq => absurd hq (Nat.not_lt_zero _)⟩
def FM (E : xE) (h : Nat) (k P H Pk Hk : Int32) (w : va_W) : Prop := ∃ (a : Nat → Nat) (cd : Cd), a 0 = h ∧ Good cd ∧ WX (okM E a cd k (some (P, H)) none (some (Pk, Hk))) w
def VM (E : xE) (h : Nat) (b1 b2 b3 b4 b5 b6 b7 b8 b9 b10 b11 b12 b13 b14 b15 b16 b17 b18 b19 b20 b21 b22 b23 b24 b25 b26 b27 b28 b29 b30 : Nat) : va_W := [ob h 11 [.ref b1, .ref b2, .ref b3, .ref b4, .int 0, .int 0, .int 0, .int 0, .int 0, .int 0, .int 0, .int 0, .int 0, .int 0, .ref b5, .ref b6, .ref b7, .ref b8, .ref b9, .ref b10, .ref b11, .ref b12, .ref b13, .ref b14, .ref b15, .ref b16, .ref b17, .int 0, .ref b18, .ref b19, .ref b20, .ref b21, .int 0, .int 0, .int 0, .int 0, .int 0, .int 0, .ref b22, .ref b23, .ref b24, .ref b25, .ref b26, .ref b27, .ref b28, .ref b29, .ref b30, .int 0], iA E b1 382 (upd (fun _ => 0) 380 1), iA E b2 382 (fun _ => 0), iA E b3 382 (fun _ => 0), bA E b4 260 (fun _ => 0), iA E b5 260 (fun _ => 0), iA E b6 260 (fun _ => 0), iA E b7 16 (fun _ => 0), iA E b8 16 (fun _ => 0), iA E b9 16 (fun _ => 0), iA E b10 16 (fun _ => 0), iA E b11 260 (fun _ => 0), iA E b12 16 (fun _ => 0), iA E b13 16 (fun _ => 0), iA E b14 16 (fun _ => 0), iA E b15 16 (fun _ => 0), iA E b16 260 (fun _ => 0), iA E b17 11 (fun _ => 0), iA E b18 25 (fun _ => 0), iA E b19 24 (fun _ => 0), iA E b20 24 (fun _ => 0), iA E b21 192 (fun _ => 0), iA E b22 12 (fun _ => 0), iA E b23 4 (fun _ => 0), iA E b24 5120 (fun _ => 0), iA E b25 1024 (fun _ => 0), iA E b26 48 (fun _ => 0), iA E b27 48 (fun _ => 0), iA E b28 40 (fun _ => 0), iA E b29 273 (fun _ => 0), iA E b30 5 (fun _ => 0)]
def adM (h : Nat) (b1 b2 b3 b4 b5 b6 b7 b8 b9 b10 b11 b12 b13 b14 b15 b16 b17 b18 b19 b20 b21 b22 b23 b24 b25 b26 b27 b28 b29 b30 : Nat) : Nat → Nat := fun k => ([h, b1, b2, b3, b4, b5, b6, b7, b8, b9, b10, b11, b12, b13, b14, b15, b16, b17, b18, b19, b20, b21, b22, b23, b24, b25, b26, b27, b28, b29, b30] : List Nat).getD k 0
set_option maxRecDepth 20000 in
theorem VM_ok (E : xE) (h : Nat) (b1 b2 b3 b4 b5 b6 b7 b8 b9 b10 b11 b12 b13 b14 b15 b16 b17 b18 b19 b20 b21 b22 b23 b24 b25 b26 b27 b28 b29 b30 : Nat) : ∀ (k : Nat) (P : Nat × va_E → Prop), (okM E (adM h b1 b2 b3 b4 b5 b6 b7 b8 b9 b10 b11 b12 b13 b14 b15 b16 b17 b18 b19 b20 b21 b22 b23 b24 b25 b26 b27 b28 b29 b30) cd0 0 (some (0, 0)) none (some (0, 0)))[k]? = some P → ∃ c, (VM E h b1 b2 b3 b4 b5 b6 b7 b8 b9 b10 b11 b12 b13 b14 b15 b16 b17 b18 b19 b20 b21 b22 b23 b24 b25 b26 b27 b28 b29 b30)[k]? = some c ∧ P c
  | 0, _, hP => ⟨_, rfl, some_at hP rfl ⟨0, 0, 0, _, _, _, 0, 0, 0, 0, _, _, _, _, 0, 0, Nat.zero_le _, Nat.zero_le _, Nat.zero_le _, Nat.zero_le _, Nat.zero_le _, Nat.zero_le _, Nat.zero_le _, Nat.zero_le _, Nat.zero_le _, rfl⟩⟩
  | 1, _, hP => ⟨_, rfl, some_at hP rfl ⟨_, NB_free NB_zero (by unfold bd; omega), rfl⟩⟩
  | 2, _, hP => ⟨_, rfl, some_at hP rfl ⟨_, NB_w NB_zero, rfl⟩⟩
  | 3, _, hP => ⟨_, rfl, some_at hP rfl ⟨_, NB_zero, rfl⟩⟩
  | 4, _, hP => ⟨_, rfl, some_at hP rfl ⟨_, rfl⟩⟩
  | 5, _, hP => ⟨_, rfl, some_at hP rfl ⟨_, rfl⟩⟩
  | 6, _, hP => ⟨_, rfl, some_at hP rfl ⟨_, rfl⟩⟩
  | 7, _, hP => ⟨_, rfl, some_at hP rfl ⟨_, rfl⟩⟩
  | 8, _, hP => ⟨_, rfl, some_at hP rfl ⟨_, rfl⟩⟩
  | 9, _, hP => ⟨_, rfl, some_at hP rfl ⟨_, rfl⟩⟩
  | 10, _, hP => ⟨_, rfl, some_at hP rfl ⟨_, rfl⟩⟩
  | 11, _, hP => ⟨_, rfl, some_at hP rfl rfl⟩
  | 12, _, hP => ⟨_, rfl, some_at hP rfl rfl⟩
  | 13, _, hP => ⟨_, rfl, some_at hP rfl rfl⟩
  | 14, _, hP => ⟨_, rfl, some_at hP rfl rfl⟩
  | 15, _, hP => ⟨_, rfl, some_at hP rfl rfl⟩
  | 16, _, hP => ⟨_, rfl, some_at hP rfl ⟨_, rfl⟩⟩
  | 17, _, hP => ⟨_, rfl, some_at hP rfl ⟨_, rfl⟩⟩
  | 18, _, hP => ⟨_, rfl, some_at hP rfl ⟨fun _ => 0, fun _ => Nat.zero_le _, rfl⟩⟩
  | 19, _, hP => ⟨_, rfl, some_at hP rfl ⟨_, rfl⟩⟩
  | 20, _, hP => ⟨_, rfl, some_at hP rfl ⟨fun _ => 0, fun _ => Nat.zero_le _, rfl⟩⟩
  | 21, _, hP => ⟨_, rfl, some_at hP rfl ⟨fun _ => 0, fun _ => Nat.zero_le _, rfl⟩⟩
  | 22, _, hP => ⟨_, rfl, some_at hP rfl ⟨fun _ => 0, fun _ => Nat.zero_le _, rfl⟩⟩
  | 23, _, hP => ⟨_, rfl, some_at hP rfl ⟨fun _ => 0, fun _ => Nat.zero_le _, rfl⟩⟩
  | 24, _, hP => ⟨_, rfl, some_at hP rfl ⟨_, rfl⟩⟩
  | 25, _, hP => ⟨_, rfl, some_at hP rfl ⟨_, rfl⟩⟩
  | 26, _, hP => ⟨_, rfl, some_at hP rfl ⟨_, rfl⟩⟩
  | 27, _, hP => ⟨_, rfl, some_at hP rfl ⟨fun _ => 0, fun _ => Nat.zero_le _, rfl⟩⟩
  | 28, _, hP => ⟨_, rfl, some_at hP rfl ⟨_, rfl⟩⟩
  | 29, _, hP => ⟨_, rfl, some_at hP rfl ⟨_, rfl⟩⟩
  | 30, _, hP => ⟨_, rfl, some_at hP rfl ⟨_, rfl⟩⟩
  | n + 31, P, hP => absurd (show (none : Option (Nat × va_E → Prop)) = some P from hP) (fun q => by cases q)
theorem dX8_init_0 : decode cX8_init 0 = .ok (.aload_n 0, 1) := by decide +kernel
theorem dX8_init_1 : decode cX8_init 1 = .ok (.invokespecial 3, 3) := by decide +kernel
theorem dX8_init_4 : decode cX8_init 4 = .ok (.aload_n 0, 1) := by decide +kernel
theorem dX8_init_5 : decode cX8_init 5 = .ok (.sipush 260, 3) := by decide +kernel
theorem dX8_init_8 : decode cX8_init 8 = .ok (.newarray .int, 2) := by decide +kernel
theorem dX8_init_10 : decode cX8_init 10 = .ok (.putfield 9, 3) := by decide +kernel
theorem dX8_init_13 : decode cX8_init 13 = .ok (.aload_n 0, 1) := by decide +kernel
theorem dX8_init_14 : decode cX8_init 14 = .ok (.iconst 0, 1) := by decide +kernel
theorem dX8_init_15 : decode cX8_init 15 = .ok (.putfield 15, 3) := by decide +kernel
theorem dX8_init_18 : decode cX8_init 18 = .ok (.aload_n 0, 1) := by decide +kernel
theorem dX8_init_19 : decode cX8_init 19 = .ok (.iconst 0, 1) := by decide +kernel
theorem dX8_init_20 : decode cX8_init 20 = .ok (.putfield 19, 3) := by decide +kernel
theorem dX8_init_23 : decode cX8_init 23 = .ok (.aload_n 0, 1) := by decide +kernel
theorem dX8_init_24 : decode cX8_init 24 = .ok (.iconst 0, 1) := by decide +kernel
theorem dX8_init_25 : decode cX8_init 25 = .ok (.putfield 22, 3) := by decide +kernel
theorem dX8_init_28 : decode cX8_init 28 = .ok (.aload_n 0, 1) := by decide +kernel
theorem dX8_init_29 : decode cX8_init 29 = .ok (.iconst 0, 1) := by decide +kernel
theorem dX8_init_30 : decode cX8_init 30 = .ok (.putfield 25, 3) := by decide +kernel
theorem dX8_init_33 : decode cX8_init 33 = .ok (.return_, 1) := by decide +kernel
set_option maxRecDepth 20000 in
set_option maxHeartbeats 4000000 in
theorem i_X8 (E : xE) (l : Launch) (h : Nat) : xV E l yX8_init cX8_init 1 1 1 260 [.ref h] [ob h 7 [.null, .int 0, .int 0, .int 0, .int 0]] (fun w => ∃ q0 : Nat, w = VX8 E h q0) := by
  refine xV_start (lv := [(0, .ref h)]) RX8 (by decide) rfl (Nat.le_of_ble_eq_true rfl) rfl (fun p e s m below meth c A C hr hlk hin => ?_)
  refine x_aload_n C dX8_init_0 rfl 0 rfl rfl ?_
  refine x_oinit C w_35 w_28 w_29 dX8_init_1 (Nat.le_of_ble_eq_true rfl) (Nat.le_of_ble_eq_true rfl) rfl ?_
  refine x_aload_n C dX8_init_4 rfl 0 rfl rfl ?_
  refine x_sipush C (v := 260) dX8_init_5 (by decide) rfl ?_
  refine x_newi C 260 w_55 (by decide) (by decide) (by decide) (Nat.le_of_ble_eq_true rfl) (Nat.le_of_ble_eq_true rfl) dX8_init_8 rfl (fun q1 => ?_)
  refine x_ws (ws1 := [ob h 7 [.null, .int 0, .int 0, .int 0, .int 0], iA E q1 260 (fun _ => 0)]) rfl ?_
  refine x_wide (k := 1) (n := 260) (Nat.le_refl _) (Nat.le_refl _) ?_
  refine x_putF C (ci := 7) (k := 0) (ty := .array .int) (ws1 := [ob h 7 [.ref q1, .int 0, .int 0, .int 0, .int 0], iA E q1 260 (fun _ => 0)]) hin 0 rfl rfl in_X8 tyX8 tyX8_ok nmX8 (by decide) w_36 rfl rfl rfl rfl rfl (Nat.le_of_ble_eq_true rfl) rfl dX8_init_10 rfl ?_
  refine x_aload_n C dX8_init_13 rfl 0 rfl rfl ?_
  refine x_iconst C (v := 0) dX8_init_14 (by decide) rfl ?_
  refine x_put C (ci := 7) (k := 1) (ty := .int) (ws1 := [ob h 7 [.ref q1, .int 0, .int 0, .int 0, .int 0], iA E q1 260 (fun _ => 0)]) 0 rfl rfl in_X8 tyX8 tyX8_ok nmX8 (by decide) w_37 rfl rfl rfl rfl (Nat.le_of_ble_eq_true rfl) rfl dX8_init_15 rfl ?_
  refine x_aload_n C dX8_init_18 rfl 0 rfl rfl ?_
  refine x_iconst C (v := 0) dX8_init_19 (by decide) rfl ?_
  refine x_put C (ci := 7) (k := 2) (ty := .int) (ws1 := [ob h 7 [.ref q1, .int 0, .int 0, .int 0, .int 0], iA E q1 260 (fun _ => 0)]) 0 rfl rfl in_X8 tyX8 tyX8_ok nmX8 (by decide) w_39 rfl rfl rfl rfl (Nat.le_of_ble_eq_true rfl) rfl dX8_init_20 rfl ?_
  refine x_aload_n C dX8_init_23 rfl 0 rfl rfl ?_
  refine x_iconst C (v := 0) dX8_init_24 (by decide) rfl ?_
  refine x_put C (ci := 7) (k := 3) (ty := .int) (ws1 := [ob h 7 [.ref q1, .int 0, .int 0, .int 0, .int 0], iA E q1 260 (fun _ => 0)]) 0 rfl rfl in_X8 tyX8 tyX8_ok nmX8 (by decide) w_40 rfl rfl rfl rfl (Nat.le_of_ble_eq_true rfl) rfl dX8_init_25 rfl ?_
  refine x_aload_n C dX8_init_28 rfl 0 rfl rfl ?_
  refine x_iconst C (v := 0) dX8_init_29 (by decide) rfl ?_
  refine x_put C (ci := 7) (k := 4) (ty := .int) (ws1 := [ob h 7 [.ref q1, .int 0, .int 0, .int 0, .int 0], iA E q1 260 (fun _ => 0)]) 0 rfl rfl in_X8 tyX8 tyX8_ok nmX8 (by decide) w_43 rfl rfl rfl rfl (Nat.le_of_ble_eq_true rfl) rfl dX8_init_30 rfl ?_
  exact x_vret C hr hlk dX8_init_33 ⟨q1, rfl⟩
theorem dX2_init_0 : decode cX2_init 0 = .ok (.aload_n 0, 1) := by decide +kernel
theorem dX2_init_1 : decode cX2_init 1 = .ok (.invokespecial 3, 3) := by decide +kernel
theorem dX2_init_4 : decode cX2_init 4 = .ok (.aload_n 0, 1) := by decide +kernel
theorem dX2_init_5 : decode cX2_init 5 = .ok (.iconst 0, 1) := by decide +kernel
theorem dX2_init_6 : decode cX2_init 6 = .ok (.putfield 9, 3) := by decide +kernel
theorem dX2_init_9 : decode cX2_init 9 = .ok (.aload_n 0, 1) := by decide +kernel
theorem dX2_init_10 : decode cX2_init 10 = .ok (.bipush 8, 2) := by decide +kernel
theorem dX2_init_12 : decode cX2_init 12 = .ok (.newarray .int, 2) := by decide +kernel
theorem dX2_init_14 : decode cX2_init 14 = .ok (.putfield 15, 3) := by decide +kernel
theorem dX2_init_17 : decode cX2_init 17 = .ok (.aload_n 0, 1) := by decide +kernel
theorem dX2_init_18 : decode cX2_init 18 = .ok (.bipush 8, 2) := by decide +kernel
theorem dX2_init_20 : decode cX2_init 20 = .ok (.newarray .int, 2) := by decide +kernel
theorem dX2_init_22 : decode cX2_init 22 = .ok (.putfield 19, 3) := by decide +kernel
theorem dX2_init_25 : decode cX2_init 25 = .ok (.return_, 1) := by decide +kernel
set_option maxRecDepth 20000 in
set_option maxHeartbeats 4000000 in
theorem i_X2 (E : xE) (l : Launch) (h : Nat) : xV E l yX2_init cX2_init 1 1 2 16 [.ref h] [ob h 2 [.int 0, .null, .null]] (fun w => ∃ q0 q1 : Nat, w = VX2 E h q0 q1) := by
  refine xV_start (lv := [(0, .ref h)]) RX2 (by decide) rfl (Nat.le_of_ble_eq_true rfl) rfl (fun p e s m below meth c A C hr hlk hin => ?_)
  refine x_aload_n C dX2_init_0 rfl 0 rfl rfl ?_
  refine x_oinit C w_67 w_28 w_29 dX2_init_1 (Nat.le_of_ble_eq_true rfl) (Nat.le_of_ble_eq_true rfl) rfl ?_
  refine x_aload_n C dX2_init_4 rfl 0 rfl rfl ?_
  refine x_iconst C (v := 0) dX2_init_5 (by decide) rfl ?_
  refine x_put C (ci := 2) (k := 0) (ty := .int) (ws1 := [ob h 2 [.int 0, .null, .null]]) 0 rfl rfl in_X2 tyX2 tyX2_ok nmX2 (by decide) w_68 rfl rfl rfl rfl (Nat.le_of_ble_eq_true rfl) rfl dX2_init_6 rfl ?_
  refine x_aload_n C dX2_init_9 rfl 0 rfl rfl ?_
  refine x_bipush C (v := 8) dX2_init_10 (by decide) rfl ?_
  refine x_newi C 8 w_55 (by decide) (by decide) (by decide) (Nat.le_of_ble_eq_true rfl) (Nat.le_of_ble_eq_true rfl) dX2_init_12 rfl (fun q1 => ?_)
  refine x_ws (ws1 := [ob h 2 [.int 0, .null, .null], iA E q1 8 (fun _ => 0)]) rfl ?_
  refine x_wide (k := 1) (n := 8) (Nat.le_refl _) (Nat.le_refl _) ?_
  refine x_putF C (ci := 2) (k := 1) (ty := .array .int) (ws1 := [ob h 2 [.int 0, .ref q1, .null], iA E q1 8 (fun _ => 0)]) hin 0 rfl rfl in_X2 tyX2 tyX2_ok nmX2 (by decide) w_70 rfl rfl rfl rfl rfl (Nat.le_of_ble_eq_true rfl) rfl dX2_init_14 rfl ?_
  refine x_aload_n C dX2_init_17 rfl 0 rfl rfl ?_
  refine x_bipush C (v := 8) dX2_init_18 (by decide) rfl ?_
  refine x_newi C 8 w_55 (by decide) (by decide) (by decide) (Nat.le_of_ble_eq_true rfl) (Nat.le_of_ble_eq_true rfl) dX2_init_20 rfl (fun q2 => ?_)
  refine x_ws (ws1 := [ob h 2 [.int 0, .ref q1, .null], iA E q1 8 (fun _ => 0), iA E q2 8 (fun _ => 0)]) rfl ?_
  refine x_wide (k := 2) (n := 16) (Nat.le_refl _) (Nat.le_refl _) ?_
  refine x_putF C (ci := 2) (k := 2) (ty := .array .int) (ws1 := [ob h 2 [.int 0, .ref q1, .ref q2], iA E q1 8 (fun _ => 0), iA E q2 8 (fun _ => 0)]) hin 0 rfl rfl in_X2 tyX2 tyX2_ok nmX2 (by decide) w_73 rfl rfl rfl rfl rfl (Nat.le_of_ble_eq_true rfl) rfl dX2_init_22 rfl ?_
  exact x_vret C hr hlk dX2_init_25 ⟨q1, q2, rfl⟩
theorem dX5_init_0 : decode cX5_init 0 = .ok (.aload_n 0, 1) := by decide +kernel
theorem dX5_init_1 : decode cX5_init 1 = .ok (.invokespecial 3, 3) := by decide +kernel
theorem dX5_init_4 : decode cX5_init 4 = .ok (.aload_n 0, 1) := by decide +kernel
theorem dX5_init_5 : decode cX5_init 5 = .ok (.iconst 0, 1) := by decide +kernel
theorem dX5_init_6 : decode cX5_init 6 = .ok (.putfield 9, 3) := by decide +kernel
theorem dX5_init_9 : decode cX5_init 9 = .ok (.aload_n 0, 1) := by decide +kernel
theorem dX5_init_10 : decode cX5_init 10 = .ok (.bipush 8, 2) := by decide +kernel
theorem dX5_init_12 : decode cX5_init 12 = .ok (.newarray .int, 2) := by decide +kernel
theorem dX5_init_14 : decode cX5_init 14 = .ok (.putfield 15, 3) := by decide +kernel
theorem dX5_init_17 : decode cX5_init 17 = .ok (.aload_n 0, 1) := by decide +kernel
theorem dX5_init_18 : decode cX5_init 18 = .ok (.bipush 8, 2) := by decide +kernel
theorem dX5_init_20 : decode cX5_init 20 = .ok (.newarray .int, 2) := by decide +kernel
theorem dX5_init_22 : decode cX5_init 22 = .ok (.putfield 19, 3) := by decide +kernel
theorem dX5_init_25 : decode cX5_init 25 = .ok (.aload_n 0, 1) := by decide +kernel
theorem dX5_init_26 : decode cX5_init 26 = .ok (.bipush 8, 2) := by decide +kernel
theorem dX5_init_28 : decode cX5_init 28 = .ok (.newarray .int, 2) := by decide +kernel
theorem dX5_init_30 : decode cX5_init 30 = .ok (.putfield 22, 3) := by decide +kernel
theorem dX5_init_33 : decode cX5_init 33 = .ok (.aload_n 0, 1) := by decide +kernel
theorem dX5_init_34 : decode cX5_init 34 = .ok (.bipush 8, 2) := by decide +kernel
theorem dX5_init_36 : decode cX5_init 36 = .ok (.newarray .int, 2) := by decide +kernel
theorem dX5_init_38 : decode cX5_init 38 = .ok (.putfield 25, 3) := by decide +kernel
theorem dX5_init_41 : decode cX5_init 41 = .ok (.return_, 1) := by decide +kernel
set_option maxRecDepth 20000 in
set_option maxHeartbeats 4000000 in
theorem i_X5 (E : xE) (l : Launch) (h : Nat) : xV E l yX5_init cX5_init 1 1 4 32 [.ref h] [ob h 4 [.int 0, .null, .null, .null, .null]] (fun w => ∃ q0 q1 q2 q3 : Nat, w = VX5 E h q0 q1 q2 q3) := by
  refine xV_start (lv := [(0, .ref h)]) RX5 (by decide) rfl (Nat.le_of_ble_eq_true rfl) rfl (fun p e s m below meth c A C hr hlk hin => ?_)
  refine x_aload_n C dX5_init_0 rfl 0 rfl rfl ?_
  refine x_oinit C w_89 w_28 w_29 dX5_init_1 (Nat.le_of_ble_eq_true rfl) (Nat.le_of_ble_eq_true rfl) rfl ?_
  refine x_aload_n C dX5_init_4 rfl 0 rfl rfl ?_
  refine x_iconst C (v := 0) dX5_init_5 (by decide) rfl ?_
  refine x_put C (ci := 4) (k := 0) (ty := .int) (ws1 := [ob h 4 [.int 0, .null, .null, .null, .null]]) 0 rfl rfl in_X5 tyX5 tyX5_ok nmX5 (by decide) w_90 rfl rfl rfl rfl (Nat.le_of_ble_eq_true rfl) rfl dX5_init_6 rfl ?_
  refine x_aload_n C dX5_init_9 rfl 0 rfl rfl ?_
  refine x_bipush C (v := 8) dX5_init_10 (by decide) rfl ?_
  refine x_newi C 8 w_55 (by decide) (by decide) (by decide) (Nat.le_of_ble_eq_true rfl) (Nat.le_of_ble_eq_true rfl) dX5_init_12 rfl (fun q1 => ?_)
  refine x_ws (ws1 := [ob h 4 [.int 0, .null, .null, .null, .null], iA E q1 8 (fun _ => 0)]) rfl ?_
  refine x_wide (k := 1) (n := 8) (Nat.le_refl _) (Nat.le_refl _) ?_
  refine x_putF C (ci := 4) (k := 1) (ty := .array .int) (ws1 := [ob h 4 [.int 0, .ref q1, .null, .null, .null], iA E q1 8 (fun _ => 0)]) hin 0 rfl rfl in_X5 tyX5 tyX5_ok nmX5 (by decide) w_92 rfl rfl rfl rfl rfl (Nat.le_of_ble_eq_true rfl) rfl dX5_init_14 rfl ?_
  refine x_aload_n C dX5_init_17 rfl 0 rfl rfl ?_
  refine x_bipush C (v := 8) dX5_init_18 (by decide) rfl ?_
  refine x_newi C 8 w_55 (by decide) (by decide) (by decide) (Nat.le_of_ble_eq_true rfl) (Nat.le_of_ble_eq_true rfl) dX5_init_20 rfl (fun q2 => ?_)
  refine x_ws (ws1 := [ob h 4 [.int 0, .ref q1, .null, .null, .null], iA E q1 8 (fun _ => 0), iA E q2 8 (fun _ => 0)]) rfl ?_
  refine x_wide (k := 2) (n := 16) (Nat.le_refl _) (Nat.le_refl _) ?_
  refine x_putF C (ci := 4) (k := 2) (ty := .array .int) (ws1 := [ob h 4 [.int 0, .ref q1, .ref q2, .null, .null], iA E q1 8 (fun _ => 0), iA E q2 8 (fun _ => 0)]) hin 0 rfl rfl in_X5 tyX5 tyX5_ok nmX5 (by decide) w_94 rfl rfl rfl rfl rfl (Nat.le_of_ble_eq_true rfl) rfl dX5_init_22 rfl ?_
  refine x_aload_n C dX5_init_25 rfl 0 rfl rfl ?_
  refine x_bipush C (v := 8) dX5_init_26 (by decide) rfl ?_
  refine x_newi C 8 w_55 (by decide) (by decide) (by decide) (Nat.le_of_ble_eq_true rfl) (Nat.le_of_ble_eq_true rfl) dX5_init_28 rfl (fun q3 => ?_)
  refine x_ws (ws1 := [ob h 4 [.int 0, .ref q1, .ref q2, .null, .null], iA E q1 8 (fun _ => 0), iA E q2 8 (fun _ => 0), iA E q3 8 (fun _ => 0)]) rfl ?_
  refine x_wide (k := 3) (n := 24) (Nat.le_refl _) (Nat.le_refl _) ?_
  refine x_putF C (ci := 4) (k := 3) (ty := .array .int) (ws1 := [ob h 4 [.int 0, .ref q1, .ref q2, .ref q3, .null], iA E q1 8 (fun _ => 0), iA E q2 8 (fun _ => 0), iA E q3 8 (fun _ => 0)]) hin 0 rfl rfl in_X5 tyX5 tyX5_ok nmX5 (by decide) w_97 rfl rfl rfl rfl rfl (Nat.le_of_ble_eq_true rfl) rfl dX5_init_30 rfl ?_
  refine x_aload_n C dX5_init_33 rfl 0 rfl rfl ?_
  refine x_bipush C (v := 8) dX5_init_34 (by decide) rfl ?_
  refine x_newi C 8 w_55 (by decide) (by decide) (by decide) (Nat.le_of_ble_eq_true rfl) (Nat.le_of_ble_eq_true rfl) dX5_init_36 rfl (fun q4 => ?_)
  refine x_ws (ws1 := [ob h 4 [.int 0, .ref q1, .ref q2, .ref q3, .null], iA E q1 8 (fun _ => 0), iA E q2 8 (fun _ => 0), iA E q3 8 (fun _ => 0), iA E q4 8 (fun _ => 0)]) rfl ?_
  refine x_wide (k := 4) (n := 32) (Nat.le_refl _) (Nat.le_refl _) ?_
  refine x_putF C (ci := 4) (k := 4) (ty := .array .int) (ws1 := [ob h 4 [.int 0, .ref q1, .ref q2, .ref q3, .ref q4], iA E q1 8 (fun _ => 0), iA E q2 8 (fun _ => 0), iA E q3 8 (fun _ => 0), iA E q4 8 (fun _ => 0)]) hin 0 rfl rfl in_X5 tyX5 tyX5_ok nmX5 (by decide) w_100 rfl rfl rfl rfl rfl (Nat.le_of_ble_eq_true rfl) rfl dX5_init_38 rfl ?_
  exact x_vret C hr hlk dX5_init_41 ⟨q1, q2, q3, q4, rfl⟩
theorem dX1_init_0 : decode cX1_init 0 = .ok (.aload_n 0, 1) := by decide +kernel
theorem dX1_init_1 : decode cX1_init 1 = .ok (.invokespecial 3, 3) := by decide +kernel
theorem dX1_init_4 : decode cX1_init 4 = .ok (.aload_n 0, 1) := by decide +kernel
theorem dX1_init_5 : decode cX1_init 5 = .ok (.iconst 0, 1) := by decide +kernel
theorem dX1_init_6 : decode cX1_init 6 = .ok (.putfield 9, 3) := by decide +kernel
theorem dX1_init_9 : decode cX1_init 9 = .ok (.aload_n 0, 1) := by decide +kernel
theorem dX1_init_10 : decode cX1_init 10 = .ok (.bipush 48, 2) := by decide +kernel
theorem dX1_init_12 : decode cX1_init 12 = .ok (.newarray .int, 2) := by decide +kernel
theorem dX1_init_14 : decode cX1_init 14 = .ok (.putfield 15, 3) := by decide +kernel
theorem dX1_init_17 : decode cX1_init 17 = .ok (.aload_n 0, 1) := by decide +kernel
theorem dX1_init_18 : decode cX1_init 18 = .ok (.bipush 48, 2) := by decide +kernel
theorem dX1_init_20 : decode cX1_init 20 = .ok (.newarray .int, 2) := by decide +kernel
theorem dX1_init_22 : decode cX1_init 22 = .ok (.putfield 19, 3) := by decide +kernel
theorem dX1_init_25 : decode cX1_init 25 = .ok (.aload_n 0, 1) := by decide +kernel
theorem dX1_init_26 : decode cX1_init 26 = .ok (.bipush 48, 2) := by decide +kernel
theorem dX1_init_28 : decode cX1_init 28 = .ok (.newarray .int, 2) := by decide +kernel
theorem dX1_init_30 : decode cX1_init 30 = .ok (.putfield 22, 3) := by decide +kernel
theorem dX1_init_33 : decode cX1_init 33 = .ok (.aload_n 0, 1) := by decide +kernel
theorem dX1_init_34 : decode cX1_init 34 = .ok (.bipush 48, 2) := by decide +kernel
theorem dX1_init_36 : decode cX1_init 36 = .ok (.newarray .int, 2) := by decide +kernel
theorem dX1_init_38 : decode cX1_init 38 = .ok (.putfield 25, 3) := by decide +kernel
theorem dX1_init_41 : decode cX1_init 41 = .ok (.aload_n 0, 1) := by decide +kernel
theorem dX1_init_42 : decode cX1_init 42 = .ok (.bipush 48, 2) := by decide +kernel
theorem dX1_init_44 : decode cX1_init 44 = .ok (.newarray .int, 2) := by decide +kernel
theorem dX1_init_46 : decode cX1_init 46 = .ok (.putfield 28, 3) := by decide +kernel
theorem dX1_init_49 : decode cX1_init 49 = .ok (.aload_n 0, 1) := by decide +kernel
theorem dX1_init_50 : decode cX1_init 50 = .ok (.bipush 48, 2) := by decide +kernel
theorem dX1_init_52 : decode cX1_init 52 = .ok (.newarray .int, 2) := by decide +kernel
theorem dX1_init_54 : decode cX1_init 54 = .ok (.putfield 31, 3) := by decide +kernel
theorem dX1_init_57 : decode cX1_init 57 = .ok (.return_, 1) := by decide +kernel
set_option maxRecDepth 20000 in
set_option maxHeartbeats 4000000 in
theorem i_X1 (E : xE) (l : Launch) (h : Nat) : xV E l yX1_init cX1_init 1 1 6 288 [.ref h] [ob h 1 [.int 0, .null, .null, .null, .null, .null, .null]] (fun w => ∃ q0 q1 q2 q3 q4 q5 : Nat, w = VX1 E h q0 q1 q2 q3 q4 q5) := by
  refine xV_start (lv := [(0, .ref h)]) RX1 (by decide) rfl (Nat.le_of_ble_eq_true rfl) rfl (fun p e s m below meth c A C hr hlk hin => ?_)
  refine x_aload_n C dX1_init_0 rfl 0 rfl rfl ?_
  refine x_oinit C w_119 w_28 w_29 dX1_init_1 (Nat.le_of_ble_eq_true rfl) (Nat.le_of_ble_eq_true rfl) rfl ?_
  refine x_aload_n C dX1_init_4 rfl 0 rfl rfl ?_
  refine x_iconst C (v := 0) dX1_init_5 (by decide) rfl ?_
  refine x_put C (ci := 1) (k := 0) (ty := .int) (ws1 := [ob h 1 [.int 0, .null, .null, .null, .null, .null, .null]]) 0 rfl rfl in_X1 tyX1 tyX1_ok nmX1 (by decide) w_120 rfl rfl rfl rfl (Nat.le_of_ble_eq_true rfl) rfl dX1_init_6 rfl ?_
  refine x_aload_n C dX1_init_9 rfl 0 rfl rfl ?_
  refine x_bipush C (v := 48) dX1_init_10 (by decide) rfl ?_
  refine x_newi C 48 w_55 (by decide) (by decide) (by decide) (Nat.le_of_ble_eq_true rfl) (Nat.le_of_ble_eq_true rfl) dX1_init_12 rfl (fun q1 => ?_)
  refine x_ws (ws1 := [ob h 1 [.int 0, .null, .null, .null, .null, .null, .null], iA E q1 48 (fun _ => 0)]) rfl ?_
  refine x_wide (k := 1) (n := 48) (Nat.le_refl _) (Nat.le_refl _) ?_
  refine x_putF C (ci := 1) (k := 1) (ty := .array .int) (ws1 := [ob h 1 [.int 0, .ref q1, .null, .null, .null, .null, .null], iA E q1 48 (fun _ => 0)]) hin 0 rfl rfl in_X1 tyX1 tyX1_ok nmX1 (by decide) w_123 rfl rfl rfl rfl rfl (Nat.le_of_ble_eq_true rfl) rfl dX1_init_14 rfl ?_
  refine x_aload_n C dX1_init_17 rfl 0 rfl rfl ?_
  refine x_bipush C (v := 48) dX1_init_18 (by decide) rfl ?_
  refine x_newi C 48 w_55 (by decide) (by decide) (by decide) (Nat.le_of_ble_eq_true rfl) (Nat.le_of_ble_eq_true rfl) dX1_init_20 rfl (fun q2 => ?_)
  refine x_ws (ws1 := [ob h 1 [.int 0, .ref q1, .null, .null, .null, .null, .null], iA E q1 48 (fun _ => 0), iA E q2 48 (fun _ => 0)]) rfl ?_
  refine x_wide (k := 2) (n := 96) (Nat.le_refl _) (Nat.le_refl _) ?_
  refine x_putF C (ci := 1) (k := 2) (ty := .array .int) (ws1 := [ob h 1 [.int 0, .ref q1, .ref q2, .null, .null, .null, .null], iA E q1 48 (fun _ => 0), iA E q2 48 (fun _ => 0)]) hin 0 rfl rfl in_X1 tyX1 tyX1_ok nmX1 (by decide) w_127 rfl rfl rfl rfl rfl (Nat.le_of_ble_eq_true rfl) rfl dX1_init_22 rfl ?_
  refine x_aload_n C dX1_init_25 rfl 0 rfl rfl ?_
  refine x_bipush C (v := 48) dX1_init_26 (by decide) rfl ?_
  refine x_newi C 48 w_55 (by decide) (by decide) (by decide) (Nat.le_of_ble_eq_true rfl) (Nat.le_of_ble_eq_true rfl) dX1_init_28 rfl (fun q3 => ?_)
  refine x_ws (ws1 := [ob h 1 [.int 0, .ref q1, .ref q2, .null, .null, .null, .null], iA E q1 48 (fun _ => 0), iA E q2 48 (fun _ => 0), iA E q3 48 (fun _ => 0)]) rfl ?_
  refine x_wide (k := 3) (n := 144) (Nat.le_refl _) (Nat.le_refl _) ?_
  refine x_putF C (ci := 1) (k := 3) (ty := .array .int) (ws1 := [ob h 1 [.int 0, .ref q1, .ref q2, .ref q3, .null, .null, .null], iA E q1 48 (fun _ => 0), iA E q2 48 (fun _ => 0), iA E q3 48 (fun _ => 0)]) hin 0 rfl rfl in_X1 tyX1 tyX1_ok nmX1 (by decide) w_131 rfl rfl rfl rfl rfl (Nat.le_of_ble_eq_true rfl) rfl dX1_init_30 rfl ?_
  refine x_aload_n C dX1_init_33 rfl 0 rfl rfl ?_
  refine x_bipush C (v := 48) dX1_init_34 (by decide) rfl ?_
  refine x_newi C 48 w_55 (by decide) (by decide) (by decide) (Nat.le_of_ble_eq_true rfl) (Nat.le_of_ble_eq_true rfl) dX1_init_36 rfl (fun q4 => ?_)
  refine x_ws (ws1 := [ob h 1 [.int 0, .ref q1, .ref q2, .ref q3, .null, .null, .null], iA E q1 48 (fun _ => 0), iA E q2 48 (fun _ => 0), iA E q3 48 (fun _ => 0), iA E q4 48 (fun _ => 0)]) rfl ?_
  refine x_wide (k := 4) (n := 192) (Nat.le_refl _) (Nat.le_refl _) ?_
  refine x_putF C (ci := 1) (k := 4) (ty := .array .int) (ws1 := [ob h 1 [.int 0, .ref q1, .ref q2, .ref q3, .ref q4, .null, .null], iA E q1 48 (fun _ => 0), iA E q2 48 (fun _ => 0), iA E q3 48 (fun _ => 0), iA E q4 48 (fun _ => 0)]) hin 0 rfl rfl in_X1 tyX1 tyX1_ok nmX1 (by decide) w_134 rfl rfl rfl rfl rfl (Nat.le_of_ble_eq_true rfl) rfl dX1_init_38 rfl ?_
  refine x_aload_n C dX1_init_41 rfl 0 rfl rfl ?_
  refine x_bipush C (v := 48) dX1_init_42 (by decide) rfl ?_
  refine x_newi C 48 w_55 (by decide) (by decide) (by decide) (Nat.le_of_ble_eq_true rfl) (Nat.le_of_ble_eq_true rfl) dX1_init_44 rfl (fun q5 => ?_)
  refine x_ws (ws1 := [ob h 1 [.int 0, .ref q1, .ref q2, .ref q3, .ref q4, .null, .null], iA E q1 48 (fun _ => 0), iA E q2 48 (fun _ => 0), iA E q3 48 (fun _ => 0), iA E q4 48 (fun _ => 0), iA E q5 48 (fun _ => 0)]) rfl ?_
  refine x_wide (k := 5) (n := 240) (Nat.le_refl _) (Nat.le_refl _) ?_
  refine x_putF C (ci := 1) (k := 5) (ty := .array .int) (ws1 := [ob h 1 [.int 0, .ref q1, .ref q2, .ref q3, .ref q4, .ref q5, .null], iA E q1 48 (fun _ => 0), iA E q2 48 (fun _ => 0), iA E q3 48 (fun _ => 0), iA E q4 48 (fun _ => 0), iA E q5 48 (fun _ => 0)]) hin 0 rfl rfl in_X1 tyX1 tyX1_ok nmX1 (by decide) w_139 rfl rfl rfl rfl rfl (Nat.le_of_ble_eq_true rfl) rfl dX1_init_46 rfl ?_
  refine x_aload_n C dX1_init_49 rfl 0 rfl rfl ?_
  refine x_bipush C (v := 48) dX1_init_50 (by decide) rfl ?_
  refine x_newi C 48 w_55 (by decide) (by decide) (by decide) (Nat.le_of_ble_eq_true rfl) (Nat.le_of_ble_eq_true rfl) dX1_init_52 rfl (fun q6 => ?_)
  refine x_ws (ws1 := [ob h 1 [.int 0, .ref q1, .ref q2, .ref q3, .ref q4, .ref q5, .null], iA E q1 48 (fun _ => 0), iA E q2 48 (fun _ => 0), iA E q3 48 (fun _ => 0), iA E q4 48 (fun _ => 0), iA E q5 48 (fun _ => 0), iA E q6 48 (fun _ => 0)]) rfl ?_
  refine x_wide (k := 6) (n := 288) (Nat.le_refl _) (Nat.le_refl _) ?_
  refine x_putF C (ci := 1) (k := 6) (ty := .array .int) (ws1 := [ob h 1 [.int 0, .ref q1, .ref q2, .ref q3, .ref q4, .ref q5, .ref q6], iA E q1 48 (fun _ => 0), iA E q2 48 (fun _ => 0), iA E q3 48 (fun _ => 0), iA E q4 48 (fun _ => 0), iA E q5 48 (fun _ => 0), iA E q6 48 (fun _ => 0)]) hin 0 rfl rfl in_X1 tyX1 tyX1_ok nmX1 (by decide) w_144 rfl rfl rfl rfl rfl (Nat.le_of_ble_eq_true rfl) rfl dX1_init_54 rfl ?_
  exact x_vret C hr hlk dX1_init_57 ⟨q1, q2, q3, q4, q5, q6, rfl⟩
theorem dX10_init_0 : decode cX10_init 0 = .ok (.aload_n 0, 1) := by decide +kernel
theorem dX10_init_1 : decode cX10_init 1 = .ok (.invokespecial 3, 3) := by decide +kernel
theorem dX10_init_4 : decode cX10_init 4 = .ok (.aload_n 0, 1) := by decide +kernel
theorem dX10_init_5 : decode cX10_init 5 = .ok (.iconst 0, 1) := by decide +kernel
theorem dX10_init_6 : decode cX10_init 6 = .ok (.putfield 9, 3) := by decide +kernel
theorem dX10_init_9 : decode cX10_init 9 = .ok (.aload_n 0, 1) := by decide +kernel
theorem dX10_init_10 : decode cX10_init 10 = .ok (.bipush 8, 2) := by decide +kernel
theorem dX10_init_12 : decode cX10_init 12 = .ok (.newarray .int, 2) := by decide +kernel
theorem dX10_init_14 : decode cX10_init 14 = .ok (.putfield 15, 3) := by decide +kernel
theorem dX10_init_17 : decode cX10_init 17 = .ok (.aload_n 0, 1) := by decide +kernel
theorem dX10_init_18 : decode cX10_init 18 = .ok (.bipush 8, 2) := by decide +kernel
theorem dX10_init_20 : decode cX10_init 20 = .ok (.newarray .int, 2) := by decide +kernel
theorem dX10_init_22 : decode cX10_init 22 = .ok (.putfield 19, 3) := by decide +kernel
theorem dX10_init_25 : decode cX10_init 25 = .ok (.aload_n 0, 1) := by decide +kernel
theorem dX10_init_26 : decode cX10_init 26 = .ok (.bipush 8, 2) := by decide +kernel
theorem dX10_init_28 : decode cX10_init 28 = .ok (.newarray .int, 2) := by decide +kernel
theorem dX10_init_30 : decode cX10_init 30 = .ok (.putfield 22, 3) := by decide +kernel
theorem dX10_init_33 : decode cX10_init 33 = .ok (.aload_n 0, 1) := by decide +kernel
theorem dX10_init_34 : decode cX10_init 34 = .ok (.bipush 8, 2) := by decide +kernel
theorem dX10_init_36 : decode cX10_init 36 = .ok (.newarray .int, 2) := by decide +kernel
theorem dX10_init_38 : decode cX10_init 38 = .ok (.putfield 25, 3) := by decide +kernel
theorem dX10_init_41 : decode cX10_init 41 = .ok (.aload_n 0, 1) := by decide +kernel
theorem dX10_init_42 : decode cX10_init 42 = .ok (.bipush 8, 2) := by decide +kernel
theorem dX10_init_44 : decode cX10_init 44 = .ok (.newarray .int, 2) := by decide +kernel
theorem dX10_init_46 : decode cX10_init 46 = .ok (.putfield 28, 3) := by decide +kernel
theorem dX10_init_49 : decode cX10_init 49 = .ok (.return_, 1) := by decide +kernel
set_option maxRecDepth 20000 in
set_option maxHeartbeats 4000000 in
theorem i_X10 (E : xE) (l : Launch) (h : Nat) : xV E l yX10_init cX10_init 1 1 5 40 [.ref h] [ob h 9 [.int 0, .null, .null, .null, .null, .null]] (fun w => ∃ q0 q1 q2 q3 q4 : Nat, w = VX10 E h q0 q1 q2 q3 q4) := by
  refine xV_start (lv := [(0, .ref h)]) RX10 (by decide) rfl (Nat.le_of_ble_eq_true rfl) rfl (fun p e s m below meth c A C hr hlk hin => ?_)
  refine x_aload_n C dX10_init_0 rfl 0 rfl rfl ?_
  refine x_oinit C w_167 w_28 w_29 dX10_init_1 (Nat.le_of_ble_eq_true rfl) (Nat.le_of_ble_eq_true rfl) rfl ?_
  refine x_aload_n C dX10_init_4 rfl 0 rfl rfl ?_
  refine x_iconst C (v := 0) dX10_init_5 (by decide) rfl ?_
  refine x_put C (ci := 9) (k := 0) (ty := .int) (ws1 := [ob h 9 [.int 0, .null, .null, .null, .null, .null]]) 0 rfl rfl in_X10 tyX10 tyX10_ok nmX10 (by decide) w_168 rfl rfl rfl rfl (Nat.le_of_ble_eq_true rfl) rfl dX10_init_6 rfl ?_
  refine x_aload_n C dX10_init_9 rfl 0 rfl rfl ?_
  refine x_bipush C (v := 8) dX10_init_10 (by decide) rfl ?_
  refine x_newi C 8 w_55 (by decide) (by decide) (by decide) (Nat.le_of_ble_eq_true rfl) (Nat.le_of_ble_eq_true rfl) dX10_init_12 rfl (fun q1 => ?_)
  refine x_ws (ws1 := [ob h 9 [.int 0, .null, .null, .null, .null, .null], iA E q1 8 (fun _ => 0)]) rfl ?_
  refine x_wide (k := 1) (n := 8) (Nat.le_refl _) (Nat.le_refl _) ?_
  refine x_putF C (ci := 9) (k := 1) (ty := .array .int) (ws1 := [ob h 9 [.int 0, .ref q1, .null, .null, .null, .null], iA E q1 8 (fun _ => 0)]) hin 0 rfl rfl in_X10 tyX10 tyX10_ok nmX10 (by decide) w_170 rfl rfl rfl rfl rfl (Nat.le_of_ble_eq_true rfl) rfl dX10_init_14 rfl ?_
  refine x_aload_n C dX10_init_17 rfl 0 rfl rfl ?_
  refine x_bipush C (v := 8) dX10_init_18 (by decide) rfl ?_
  refine x_newi C 8 w_55 (by decide) (by decide) (by decide) (Nat.le_of_ble_eq_true rfl) (Nat.le_of_ble_eq_true rfl) dX10_init_20 rfl (fun q2 => ?_)
  refine x_ws (ws1 := [ob h 9 [.int 0, .ref q1, .null, .null, .null, .null], iA E q1 8 (fun _ => 0), iA E q2 8 (fun _ => 0)]) rfl ?_
  refine x_wide (k := 2) (n := 16) (Nat.le_refl _) (Nat.le_refl _) ?_
  refine x_putF C (ci := 9) (k := 2) (ty := .array .int) (ws1 := [ob h 9 [.int 0, .ref q1, .ref q2, .null, .null, .null], iA E q1 8 (fun _ => 0), iA E q2 8 (fun _ => 0)]) hin 0 rfl rfl in_X10 tyX10 tyX10_ok nmX10 (by decide) w_173 rfl rfl rfl rfl rfl (Nat.le_of_ble_eq_true rfl) rfl dX10_init_22 rfl ?_
  refine x_aload_n C dX10_init_25 rfl 0 rfl rfl ?_
  refine x_bipush C (v := 8) dX10_init_26 (by decide) rfl ?_
  refine x_newi C 8 w_55 (by decide) (by decide) (by decide) (Nat.le_of_ble_eq_true rfl) (Nat.le_of_ble_eq_true rfl) dX10_init_28 rfl (fun q3 => ?_)
  refine x_ws (ws1 := [ob h 9 [.int 0, .ref q1, .ref q2, .null, .null, .null], iA E q1 8 (fun _ => 0), iA E q2 8 (fun _ => 0), iA E q3 8 (fun _ => 0)]) rfl ?_
  refine x_wide (k := 3) (n := 24) (Nat.le_refl _) (Nat.le_refl _) ?_
  refine x_putF C (ci := 9) (k := 3) (ty := .array .int) (ws1 := [ob h 9 [.int 0, .ref q1, .ref q2, .ref q3, .null, .null], iA E q1 8 (fun _ => 0), iA E q2 8 (fun _ => 0), iA E q3 8 (fun _ => 0)]) hin 0 rfl rfl in_X10 tyX10 tyX10_ok nmX10 (by decide) w_176 rfl rfl rfl rfl rfl (Nat.le_of_ble_eq_true rfl) rfl dX10_init_30 rfl ?_
  refine x_aload_n C dX10_init_33 rfl 0 rfl rfl ?_
  refine x_bipush C (v := 8) dX10_init_34 (by decide) rfl ?_
  refine x_newi C 8 w_55 (by decide) (by decide) (by decide) (Nat.le_of_ble_eq_true rfl) (Nat.le_of_ble_eq_true rfl) dX10_init_36 rfl (fun q4 => ?_)
  refine x_ws (ws1 := [ob h 9 [.int 0, .ref q1, .ref q2, .ref q3, .null, .null], iA E q1 8 (fun _ => 0), iA E q2 8 (fun _ => 0), iA E q3 8 (fun _ => 0), iA E q4 8 (fun _ => 0)]) rfl ?_
  refine x_wide (k := 4) (n := 32) (Nat.le_refl _) (Nat.le_refl _) ?_
  refine x_putF C (ci := 9) (k := 4) (ty := .array .int) (ws1 := [ob h 9 [.int 0, .ref q1, .ref q2, .ref q3, .ref q4, .null], iA E q1 8 (fun _ => 0), iA E q2 8 (fun _ => 0), iA E q3 8 (fun _ => 0), iA E q4 8 (fun _ => 0)]) hin 0 rfl rfl in_X10 tyX10 tyX10_ok nmX10 (by decide) w_179 rfl rfl rfl rfl rfl (Nat.le_of_ble_eq_true rfl) rfl dX10_init_38 rfl ?_
  refine x_aload_n C dX10_init_41 rfl 0 rfl rfl ?_
  refine x_bipush C (v := 8) dX10_init_42 (by decide) rfl ?_
  refine x_newi C 8 w_55 (by decide) (by decide) (by decide) (Nat.le_of_ble_eq_true rfl) (Nat.le_of_ble_eq_true rfl) dX10_init_44 rfl (fun q5 => ?_)
  refine x_ws (ws1 := [ob h 9 [.int 0, .ref q1, .ref q2, .ref q3, .ref q4, .null], iA E q1 8 (fun _ => 0), iA E q2 8 (fun _ => 0), iA E q3 8 (fun _ => 0), iA E q4 8 (fun _ => 0), iA E q5 8 (fun _ => 0)]) rfl ?_
  refine x_wide (k := 5) (n := 40) (Nat.le_refl _) (Nat.le_refl _) ?_
  refine x_putF C (ci := 9) (k := 5) (ty := .array .int) (ws1 := [ob h 9 [.int 0, .ref q1, .ref q2, .ref q3, .ref q4, .ref q5], iA E q1 8 (fun _ => 0), iA E q2 8 (fun _ => 0), iA E q3 8 (fun _ => 0), iA E q4 8 (fun _ => 0), iA E q5 8 (fun _ => 0)]) hin 0 rfl rfl in_X10 tyX10 tyX10_ok nmX10 (by decide) w_181 rfl rfl rfl rfl rfl (Nat.le_of_ble_eq_true rfl) rfl dX10_init_46 rfl ?_
  exact x_vret C hr hlk dX10_init_49 ⟨q1, q2, q3, q4, q5, rfl⟩
theorem dX3_init_0 : decode cX3_init 0 = .ok (.aload_n 0, 1) := by decide +kernel
theorem dX3_init_1 : decode cX3_init 1 = .ok (.invokespecial 3, 3) := by decide +kernel
theorem dX3_init_4 : decode cX3_init 4 = .ok (.aload_n 0, 1) := by decide +kernel
theorem dX3_init_5 : decode cX3_init 5 = .ok (.iconst 0, 1) := by decide +kernel
theorem dX3_init_6 : decode cX3_init 6 = .ok (.putfield 9, 3) := by decide +kernel
theorem dX3_init_9 : decode cX3_init 9 = .ok (.aload_n 0, 1) := by decide +kernel
theorem dX3_init_10 : decode cX3_init 10 = .ok (.bipush 16, 2) := by decide +kernel
theorem dX3_init_12 : decode cX3_init 12 = .ok (.newarray .int, 2) := by decide +kernel
theorem dX3_init_14 : decode cX3_init 14 = .ok (.putfield 15, 3) := by decide +kernel
theorem dX3_init_17 : decode cX3_init 17 = .ok (.aload_n 0, 1) := by decide +kernel
theorem dX3_init_18 : decode cX3_init 18 = .ok (.bipush 16, 2) := by decide +kernel
theorem dX3_init_20 : decode cX3_init 20 = .ok (.newarray .int, 2) := by decide +kernel
theorem dX3_init_22 : decode cX3_init 22 = .ok (.putfield 19, 3) := by decide +kernel
theorem dX3_init_25 : decode cX3_init 25 = .ok (.aload_n 0, 1) := by decide +kernel
theorem dX3_init_26 : decode cX3_init 26 = .ok (.bipush 16, 2) := by decide +kernel
theorem dX3_init_28 : decode cX3_init 28 = .ok (.newarray .int, 2) := by decide +kernel
theorem dX3_init_30 : decode cX3_init 30 = .ok (.putfield 22, 3) := by decide +kernel
theorem dX3_init_33 : decode cX3_init 33 = .ok (.aload_n 0, 1) := by decide +kernel
theorem dX3_init_34 : decode cX3_init 34 = .ok (.bipush 16, 2) := by decide +kernel
theorem dX3_init_36 : decode cX3_init 36 = .ok (.newarray .int, 2) := by decide +kernel
theorem dX3_init_38 : decode cX3_init 38 = .ok (.putfield 25, 3) := by decide +kernel
theorem dX3_init_41 : decode cX3_init 41 = .ok (.aload_n 0, 1) := by decide +kernel
theorem dX3_init_42 : decode cX3_init 42 = .ok (.iconst 0, 1) := by decide +kernel
theorem dX3_init_43 : decode cX3_init 43 = .ok (.putfield 28, 3) := by decide +kernel
theorem dX3_init_46 : decode cX3_init 46 = .ok (.aload_n 0, 1) := by decide +kernel
theorem dX3_init_47 : decode cX3_init 47 = .ok (.sipush 240, 3) := by decide +kernel
theorem dX3_init_50 : decode cX3_init 50 = .ok (.newarray .int, 2) := by decide +kernel
theorem dX3_init_52 : decode cX3_init 52 = .ok (.putfield 31, 3) := by decide +kernel
theorem dX3_init_55 : decode cX3_init 55 = .ok (.aload_n 0, 1) := by decide +kernel
theorem dX3_init_56 : decode cX3_init 56 = .ok (.bipush 11, 2) := by decide +kernel
theorem dX3_init_58 : decode cX3_init 58 = .ok (.newarray .int, 2) := by decide +kernel
theorem dX3_init_60 : decode cX3_init 60 = .ok (.putfield 34, 3) := by decide +kernel
theorem dX3_init_63 : decode cX3_init 63 = .ok (.aload_n 0, 1) := by decide +kernel
theorem dX3_init_64 : decode cX3_init 64 = .ok (.bipush 64, 2) := by decide +kernel
theorem dX3_init_66 : decode cX3_init 66 = .ok (.newarray .int, 2) := by decide +kernel
theorem dX3_init_68 : decode cX3_init 68 = .ok (.putfield 37, 3) := by decide +kernel
theorem dX3_init_71 : decode cX3_init 71 = .ok (.aload_n 0, 1) := by decide +kernel
theorem dX3_init_72 : decode cX3_init 72 = .ok (.iconst 0, 1) := by decide +kernel
theorem dX3_init_73 : decode cX3_init 73 = .ok (.putfield 40, 3) := by decide +kernel
theorem dX3_init_76 : decode cX3_init 76 = .ok (.return_, 1) := by decide +kernel
set_option maxRecDepth 20000 in
set_option maxHeartbeats 4000000 in
theorem i_X3 (E : xE) (l : Launch) (h : Nat) : xV E l yX3_init cX3_init 1 1 7 379 [.ref h] [ob h 3 [.int 0, .null, .null, .null, .null, .int 0, .null, .null, .null, .int 0]] (fun w => ∃ q0 q1 q2 q3 q4 q5 q6 : Nat, w = VX3 E h q0 q1 q2 q3 q4 q5 q6) := by
  refine xV_start (lv := [(0, .ref h)]) RX3 (by decide) rfl (Nat.le_of_ble_eq_true rfl) rfl (fun p e s m below meth c A C hr hlk hin => ?_)
  refine x_aload_n C dX3_init_0 rfl 0 rfl rfl ?_
  refine x_oinit C w_249 w_28 w_29 dX3_init_1 (Nat.le_of_ble_eq_true rfl) (Nat.le_of_ble_eq_true rfl) rfl ?_
  refine x_aload_n C dX3_init_4 rfl 0 rfl rfl ?_
  refine x_iconst C (v := 0) dX3_init_5 (by decide) rfl ?_
  refine x_put C (ci := 3) (k := 0) (ty := .int) (ws1 := [ob h 3 [.int 0, .null, .null, .null, .null, .int 0, .null, .null, .null, .int 0]]) 0 rfl rfl in_X3 tyX3 tyX3_ok nmX3 (by decide) w_250 rfl rfl rfl rfl (Nat.le_of_ble_eq_true rfl) rfl dX3_init_6 rfl ?_
  refine x_aload_n C dX3_init_9 rfl 0 rfl rfl ?_
  refine x_bipush C (v := 16) dX3_init_10 (by decide) rfl ?_
  refine x_newi C 16 w_55 (by decide) (by decide) (by decide) (Nat.le_of_ble_eq_true rfl) (Nat.le_of_ble_eq_true rfl) dX3_init_12 rfl (fun q1 => ?_)
  refine x_ws (ws1 := [ob h 3 [.int 0, .null, .null, .null, .null, .int 0, .null, .null, .null, .int 0], iA E q1 16 (fun _ => 0)]) rfl ?_
  refine x_wide (k := 1) (n := 16) (Nat.le_refl _) (Nat.le_refl _) ?_
  refine x_putF C (ci := 3) (k := 1) (ty := .array .int) (ws1 := [ob h 3 [.int 0, .ref q1, .null, .null, .null, .int 0, .null, .null, .null, .int 0], iA E q1 16 (fun _ => 0)]) hin 0 rfl rfl in_X3 tyX3 tyX3_ok nmX3 (by decide) w_253 rfl rfl rfl rfl rfl (Nat.le_of_ble_eq_true rfl) rfl dX3_init_14 rfl ?_
  refine x_aload_n C dX3_init_17 rfl 0 rfl rfl ?_
  refine x_bipush C (v := 16) dX3_init_18 (by decide) rfl ?_
  refine x_newi C 16 w_55 (by decide) (by decide) (by decide) (Nat.le_of_ble_eq_true rfl) (Nat.le_of_ble_eq_true rfl) dX3_init_20 rfl (fun q2 => ?_)
  refine x_ws (ws1 := [ob h 3 [.int 0, .ref q1, .null, .null, .null, .int 0, .null, .null, .null, .int 0], iA E q1 16 (fun _ => 0), iA E q2 16 (fun _ => 0)]) rfl ?_
  refine x_wide (k := 2) (n := 32) (Nat.le_refl _) (Nat.le_refl _) ?_
  refine x_putF C (ci := 3) (k := 2) (ty := .array .int) (ws1 := [ob h 3 [.int 0, .ref q1, .ref q2, .null, .null, .int 0, .null, .null, .null, .int 0], iA E q1 16 (fun _ => 0), iA E q2 16 (fun _ => 0)]) hin 0 rfl rfl in_X3 tyX3 tyX3_ok nmX3 (by decide) w_255 rfl rfl rfl rfl rfl (Nat.le_of_ble_eq_true rfl) rfl dX3_init_22 rfl ?_
  refine x_aload_n C dX3_init_25 rfl 0 rfl rfl ?_
  refine x_bipush C (v := 16) dX3_init_26 (by decide) rfl ?_
  refine x_newi C 16 w_55 (by decide) (by decide) (by decide) (Nat.le_of_ble_eq_true rfl) (Nat.le_of_ble_eq_true rfl) dX3_init_28 rfl (fun q3 => ?_)
  refine x_ws (ws1 := [ob h 3 [.int 0, .ref q1, .ref q2, .null, .null, .int 0, .null, .null, .null, .int 0], iA E q1 16 (fun _ => 0), iA E q2 16 (fun _ => 0), iA E q3 16 (fun _ => 0)]) rfl ?_
  refine x_wide (k := 3) (n := 48) (Nat.le_refl _) (Nat.le_refl _) ?_
  refine x_putF C (ci := 3) (k := 3) (ty := .array .int) (ws1 := [ob h 3 [.int 0, .ref q1, .ref q2, .ref q3, .null, .int 0, .null, .null, .null, .int 0], iA E q1 16 (fun _ => 0), iA E q2 16 (fun _ => 0), iA E q3 16 (fun _ => 0)]) hin 0 rfl rfl in_X3 tyX3 tyX3_ok nmX3 (by decide) w_257 rfl rfl rfl rfl rfl (Nat.le_of_ble_eq_true rfl) rfl dX3_init_30 rfl ?_
  refine x_aload_n C dX3_init_33 rfl 0 rfl rfl ?_
  refine x_bipush C (v := 16) dX3_init_34 (by decide) rfl ?_
  refine x_newi C 16 w_55 (by decide) (by decide) (by decide) (Nat.le_of_ble_eq_true rfl) (Nat.le_of_ble_eq_true rfl) dX3_init_36 rfl (fun q4 => ?_)
  refine x_ws (ws1 := [ob h 3 [.int 0, .ref q1, .ref q2, .ref q3, .null, .int 0, .null, .null, .null, .int 0], iA E q1 16 (fun _ => 0), iA E q2 16 (fun _ => 0), iA E q3 16 (fun _ => 0), iA E q4 16 (fun _ => 0)]) rfl ?_
  refine x_wide (k := 4) (n := 64) (Nat.le_refl _) (Nat.le_refl _) ?_
  refine x_putF C (ci := 3) (k := 4) (ty := .array .int) (ws1 := [ob h 3 [.int 0, .ref q1, .ref q2, .ref q3, .ref q4, .int 0, .null, .null, .null, .int 0], iA E q1 16 (fun _ => 0), iA E q2 16 (fun _ => 0), iA E q3 16 (fun _ => 0), iA E q4 16 (fun _ => 0)]) hin 0 rfl rfl in_X3 tyX3 tyX3_ok nmX3 (by decide) w_259 rfl rfl rfl rfl rfl (Nat.le_of_ble_eq_true rfl) rfl dX3_init_38 rfl ?_
  refine x_aload_n C dX3_init_41 rfl 0 rfl rfl ?_
  refine x_iconst C (v := 0) dX3_init_42 (by decide) rfl ?_
  refine x_put C (ci := 3) (k := 5) (ty := .int) (ws1 := [ob h 3 [.int 0, .ref q1, .ref q2, .ref q3, .ref q4, .int 0, .null, .null, .null, .int 0], iA E q1 16 (fun _ => 0), iA E q2 16 (fun _ => 0), iA E q3 16 (fun _ => 0), iA E q4 16 (fun _ => 0)]) 0 rfl rfl in_X3 tyX3 tyX3_ok nmX3 (by decide) w_261 rfl rfl rfl rfl (Nat.le_of_ble_eq_true rfl) rfl dX3_init_43 rfl ?_
  refine x_aload_n C dX3_init_46 rfl 0 rfl rfl ?_
  refine x_sipush C (v := 240) dX3_init_47 (by decide) rfl ?_
  refine x_newi C 240 w_55 (by decide) (by decide) (by decide) (Nat.le_of_ble_eq_true rfl) (Nat.le_of_ble_eq_true rfl) dX3_init_50 rfl (fun q5 => ?_)
  refine x_ws (ws1 := [ob h 3 [.int 0, .ref q1, .ref q2, .ref q3, .ref q4, .int 0, .null, .null, .null, .int 0], iA E q1 16 (fun _ => 0), iA E q2 16 (fun _ => 0), iA E q3 16 (fun _ => 0), iA E q4 16 (fun _ => 0), iA E q5 240 (fun _ => 0)]) rfl ?_
  refine x_wide (k := 5) (n := 304) (Nat.le_refl _) (Nat.le_refl _) ?_
  refine x_putF C (ci := 3) (k := 6) (ty := .array .int) (ws1 := [ob h 3 [.int 0, .ref q1, .ref q2, .ref q3, .ref q4, .int 0, .ref q5, .null, .null, .int 0], iA E q1 16 (fun _ => 0), iA E q2 16 (fun _ => 0), iA E q3 16 (fun _ => 0), iA E q4 16 (fun _ => 0), iA E q5 240 (fun _ => 0)]) hin 0 rfl rfl in_X3 tyX3 tyX3_ok nmX3 (by decide) w_263 rfl rfl rfl rfl rfl (Nat.le_of_ble_eq_true rfl) rfl dX3_init_52 rfl ?_
  refine x_aload_n C dX3_init_55 rfl 0 rfl rfl ?_
  refine x_bipush C (v := 11) dX3_init_56 (by decide) rfl ?_
  refine x_newi C 11 w_55 (by decide) (by decide) (by decide) (Nat.le_of_ble_eq_true rfl) (Nat.le_of_ble_eq_true rfl) dX3_init_58 rfl (fun q6 => ?_)
  refine x_ws (ws1 := [ob h 3 [.int 0, .ref q1, .ref q2, .ref q3, .ref q4, .int 0, .ref q5, .null, .null, .int 0], iA E q1 16 (fun _ => 0), iA E q2 16 (fun _ => 0), iA E q3 16 (fun _ => 0), iA E q4 16 (fun _ => 0), iA E q5 240 (fun _ => 0), iA E q6 11 (fun _ => 0)]) rfl ?_
  refine x_wide (k := 6) (n := 315) (Nat.le_refl _) (Nat.le_refl _) ?_
  refine x_putF C (ci := 3) (k := 7) (ty := .array .int) (ws1 := [ob h 3 [.int 0, .ref q1, .ref q2, .ref q3, .ref q4, .int 0, .ref q5, .ref q6, .null, .int 0], iA E q1 16 (fun _ => 0), iA E q2 16 (fun _ => 0), iA E q3 16 (fun _ => 0), iA E q4 16 (fun _ => 0), iA E q5 240 (fun _ => 0), iA E q6 11 (fun _ => 0)]) hin 0 rfl rfl in_X3 tyX3 tyX3_ok nmX3 (by decide) w_264 rfl rfl rfl rfl rfl (Nat.le_of_ble_eq_true rfl) rfl dX3_init_60 rfl ?_
  refine x_aload_n C dX3_init_63 rfl 0 rfl rfl ?_
  refine x_bipush C (v := 64) dX3_init_64 (by decide) rfl ?_
  refine x_newi C 64 w_55 (by decide) (by decide) (by decide) (Nat.le_of_ble_eq_true rfl) (Nat.le_of_ble_eq_true rfl) dX3_init_66 rfl (fun q7 => ?_)
  refine x_ws (ws1 := [ob h 3 [.int 0, .ref q1, .ref q2, .ref q3, .ref q4, .int 0, .ref q5, .ref q6, .null, .int 0], iA E q1 16 (fun _ => 0), iA E q2 16 (fun _ => 0), iA E q3 16 (fun _ => 0), iA E q4 16 (fun _ => 0), iA E q5 240 (fun _ => 0), iA E q6 11 (fun _ => 0), iA E q7 64 (fun _ => 0)]) rfl ?_
  refine x_wide (k := 7) (n := 379) (Nat.le_refl _) (Nat.le_refl _) ?_
  refine x_putF C (ci := 3) (k := 8) (ty := .array .int) (ws1 := [ob h 3 [.int 0, .ref q1, .ref q2, .ref q3, .ref q4, .int 0, .ref q5, .ref q6, .ref q7, .int 0], iA E q1 16 (fun _ => 0), iA E q2 16 (fun _ => 0), iA E q3 16 (fun _ => 0), iA E q4 16 (fun _ => 0), iA E q5 240 (fun _ => 0), iA E q6 11 (fun _ => 0), iA E q7 64 (fun _ => 0)]) hin 0 rfl rfl in_X3 tyX3 tyX3_ok nmX3 (by decide) w_265 rfl rfl rfl rfl rfl (Nat.le_of_ble_eq_true rfl) rfl dX3_init_68 rfl ?_
  refine x_aload_n C dX3_init_71 rfl 0 rfl rfl ?_
  refine x_iconst C (v := 0) dX3_init_72 (by decide) rfl ?_
  refine x_put C (ci := 3) (k := 9) (ty := .int) (ws1 := [ob h 3 [.int 0, .ref q1, .ref q2, .ref q3, .ref q4, .int 0, .ref q5, .ref q6, .ref q7, .int 0], iA E q1 16 (fun _ => 0), iA E q2 16 (fun _ => 0), iA E q3 16 (fun _ => 0), iA E q4 16 (fun _ => 0), iA E q5 240 (fun _ => 0), iA E q6 11 (fun _ => 0), iA E q7 64 (fun _ => 0)]) 0 rfl rfl in_X3 tyX3 tyX3_ok nmX3 (by decide) w_266 rfl rfl rfl rfl (Nat.le_of_ble_eq_true rfl) rfl dX3_init_73 rfl ?_
  exact x_vret C hr hlk dX3_init_76 ⟨q1, q2, q3, q4, q5, q6, q7, rfl⟩
theorem dX0_init_0 : decode cX0_init 0 = .ok (.aload_n 0, 1) := by decide +kernel
theorem dX0_init_1 : decode cX0_init 1 = .ok (.invokespecial 3, 3) := by decide +kernel
theorem dX0_init_4 : decode cX0_init 4 = .ok (.aload_n 0, 1) := by decide +kernel
theorem dX0_init_5 : decode cX0_init 5 = .ok (.iconst 0, 1) := by decide +kernel
theorem dX0_init_6 : decode cX0_init 6 = .ok (.putfield 9, 3) := by decide +kernel
theorem dX0_init_9 : decode cX0_init 9 = .ok (.aload_n 0, 1) := by decide +kernel
theorem dX0_init_10 : decode cX0_init 10 = .ok (.bipush 24, 2) := by decide +kernel
theorem dX0_init_12 : decode cX0_init 12 = .ok (.newarray .int, 2) := by decide +kernel
theorem dX0_init_14 : decode cX0_init 14 = .ok (.putfield 15, 3) := by decide +kernel
theorem dX0_init_17 : decode cX0_init 17 = .ok (.aload_n 0, 1) := by decide +kernel
theorem dX0_init_18 : decode cX0_init 18 = .ok (.bipush 24, 2) := by decide +kernel
theorem dX0_init_20 : decode cX0_init 20 = .ok (.newarray .int, 2) := by decide +kernel
theorem dX0_init_22 : decode cX0_init 22 = .ok (.putfield 19, 3) := by decide +kernel
theorem dX0_init_25 : decode cX0_init 25 = .ok (.aload_n 0, 1) := by decide +kernel
theorem dX0_init_26 : decode cX0_init 26 = .ok (.bipush 25, 2) := by decide +kernel
theorem dX0_init_28 : decode cX0_init 28 = .ok (.newarray .int, 2) := by decide +kernel
theorem dX0_init_30 : decode cX0_init 30 = .ok (.putfield 22, 3) := by decide +kernel
theorem dX0_init_33 : decode cX0_init 33 = .ok (.aload_n 0, 1) := by decide +kernel
theorem dX0_init_34 : decode cX0_init 34 = .ok (.sipush 140, 3) := by decide +kernel
theorem dX0_init_37 : decode cX0_init 37 = .ok (.newarray .int, 2) := by decide +kernel
theorem dX0_init_39 : decode cX0_init 39 = .ok (.putfield 25, 3) := by decide +kernel
theorem dX0_init_42 : decode cX0_init 42 = .ok (.aload_n 0, 1) := by decide +kernel
theorem dX0_init_43 : decode cX0_init 43 = .ok (.iconst 0, 1) := by decide +kernel
theorem dX0_init_44 : decode cX0_init 44 = .ok (.putfield 28, 3) := by decide +kernel
theorem dX0_init_47 : decode cX0_init 47 = .ok (.return_, 1) := by decide +kernel
set_option maxRecDepth 20000 in
set_option maxHeartbeats 4000000 in
theorem i_X0 (E : xE) (l : Launch) (h : Nat) : xV E l yX0_init cX0_init 1 1 4 213 [.ref h] [ob h 0 [.int 0, .null, .null, .null, .null, .int 0]] (fun w => ∃ q0 q1 q2 q3 : Nat, w = VX0 E h q0 q1 q2 q3) := by
  refine xV_start (lv := [(0, .ref h)]) RX0 (by decide) rfl (Nat.le_of_ble_eq_true rfl) rfl (fun p e s m below meth c A C hr hlk hin => ?_)
  refine x_aload_n C dX0_init_0 rfl 0 rfl rfl ?_
  refine x_oinit C w_293 w_28 w_29 dX0_init_1 (Nat.le_of_ble_eq_true rfl) (Nat.le_of_ble_eq_true rfl) rfl ?_
  refine x_aload_n C dX0_init_4 rfl 0 rfl rfl ?_
  refine x_iconst C (v := 0) dX0_init_5 (by decide) rfl ?_
  refine x_put C (ci := 0) (k := 0) (ty := .int) (ws1 := [ob h 0 [.int 0, .null, .null, .null, .null, .int 0]]) 0 rfl rfl in_X0 tyX0 tyX0_ok nmX0 (by decide) w_294 rfl rfl rfl rfl (Nat.le_of_ble_eq_true rfl) rfl dX0_init_6 rfl ?_
  refine x_aload_n C dX0_init_9 rfl 0 rfl rfl ?_
  refine x_bipush C (v := 24) dX0_init_10 (by decide) rfl ?_
  refine x_newi C 24 w_55 (by decide) (by decide) (by decide) (Nat.le_of_ble_eq_true rfl) (Nat.le_of_ble_eq_true rfl) dX0_init_12 rfl (fun q1 => ?_)
  refine x_ws (ws1 := [ob h 0 [.int 0, .null, .null, .null, .null, .int 0], iA E q1 24 (fun _ => 0)]) rfl ?_
  refine x_wide (k := 1) (n := 24) (Nat.le_refl _) (Nat.le_refl _) ?_
  refine x_putF C (ci := 0) (k := 1) (ty := .array .int) (ws1 := [ob h 0 [.int 0, .ref q1, .null, .null, .null, .int 0], iA E q1 24 (fun _ => 0)]) hin 0 rfl rfl in_X0 tyX0 tyX0_ok nmX0 (by decide) w_296 rfl rfl rfl rfl rfl (Nat.le_of_ble_eq_true rfl) rfl dX0_init_14 rfl ?_
  refine x_aload_n C dX0_init_17 rfl 0 rfl rfl ?_
  refine x_bipush C (v := 24) dX0_init_18 (by decide) rfl ?_
  refine x_newi C 24 w_55 (by decide) (by decide) (by decide) (Nat.le_of_ble_eq_true rfl) (Nat.le_of_ble_eq_true rfl) dX0_init_20 rfl (fun q2 => ?_)
  refine x_ws (ws1 := [ob h 0 [.int 0, .ref q1, .null, .null, .null, .int 0], iA E q1 24 (fun _ => 0), iA E q2 24 (fun _ => 0)]) rfl ?_
  refine x_wide (k := 2) (n := 48) (Nat.le_refl _) (Nat.le_refl _) ?_
  refine x_putF C (ci := 0) (k := 2) (ty := .array .int) (ws1 := [ob h 0 [.int 0, .ref q1, .ref q2, .null, .null, .int 0], iA E q1 24 (fun _ => 0), iA E q2 24 (fun _ => 0)]) hin 0 rfl rfl in_X0 tyX0 tyX0_ok nmX0 (by decide) w_297 rfl rfl rfl rfl rfl (Nat.le_of_ble_eq_true rfl) rfl dX0_init_22 rfl ?_
  refine x_aload_n C dX0_init_25 rfl 0 rfl rfl ?_
  refine x_bipush C (v := 25) dX0_init_26 (by decide) rfl ?_
  refine x_newi C 25 w_55 (by decide) (by decide) (by decide) (Nat.le_of_ble_eq_true rfl) (Nat.le_of_ble_eq_true rfl) dX0_init_28 rfl (fun q3 => ?_)
  refine x_ws (ws1 := [ob h 0 [.int 0, .ref q1, .ref q2, .null, .null, .int 0], iA E q1 24 (fun _ => 0), iA E q2 24 (fun _ => 0), iA E q3 25 (fun _ => 0)]) rfl ?_
  refine x_wide (k := 3) (n := 73) (Nat.le_refl _) (Nat.le_refl _) ?_
  refine x_putF C (ci := 0) (k := 3) (ty := .array .int) (ws1 := [ob h 0 [.int 0, .ref q1, .ref q2, .ref q3, .null, .int 0], iA E q1 24 (fun _ => 0), iA E q2 24 (fun _ => 0), iA E q3 25 (fun _ => 0)]) hin 0 rfl rfl in_X0 tyX0 tyX0_ok nmX0 (by decide) w_298 rfl rfl rfl rfl rfl (Nat.le_of_ble_eq_true rfl) rfl dX0_init_30 rfl ?_
  refine x_aload_n C dX0_init_33 rfl 0 rfl rfl ?_
  refine x_sipush C (v := 140) dX0_init_34 (by decide) rfl ?_
  refine x_newi C 140 w_55 (by decide) (by decide) (by decide) (Nat.le_of_ble_eq_true rfl) (Nat.le_of_ble_eq_true rfl) dX0_init_37 rfl (fun q4 => ?_)
  refine x_ws (ws1 := [ob h 0 [.int 0, .ref q1, .ref q2, .ref q3, .null, .int 0], iA E q1 24 (fun _ => 0), iA E q2 24 (fun _ => 0), iA E q3 25 (fun _ => 0), iA E q4 140 (fun _ => 0)]) rfl ?_
  refine x_wide (k := 4) (n := 213) (Nat.le_refl _) (Nat.le_refl _) ?_
  refine x_putF C (ci := 0) (k := 4) (ty := .array .int) (ws1 := [ob h 0 [.int 0, .ref q1, .ref q2, .ref q3, .ref q4, .int 0], iA E q1 24 (fun _ => 0), iA E q2 24 (fun _ => 0), iA E q3 25 (fun _ => 0), iA E q4 140 (fun _ => 0)]) hin 0 rfl rfl in_X0 tyX0 tyX0_ok nmX0 (by decide) w_299 rfl rfl rfl rfl rfl (Nat.le_of_ble_eq_true rfl) rfl dX0_init_39 rfl ?_
  refine x_aload_n C dX0_init_42 rfl 0 rfl rfl ?_
  refine x_iconst C (v := 0) dX0_init_43 (by decide) rfl ?_
  refine x_put C (ci := 0) (k := 5) (ty := .int) (ws1 := [ob h 0 [.int 0, .ref q1, .ref q2, .ref q3, .ref q4, .int 0], iA E q1 24 (fun _ => 0), iA E q2 24 (fun _ => 0), iA E q3 25 (fun _ => 0), iA E q4 140 (fun _ => 0)]) 0 rfl rfl in_X0 tyX0 tyX0_ok nmX0 (by decide) w_300 rfl rfl rfl rfl (Nat.le_of_ble_eq_true rfl) rfl dX0_init_44 rfl ?_
  exact x_vret C hr hlk dX0_init_47 ⟨q1, q2, q3, q4, rfl⟩
theorem dX6_init_0 : decode cX6_init 0 = .ok (.aload_n 0, 1) := by decide +kernel
theorem dX6_init_1 : decode cX6_init 1 = .ok (.invokespecial 3, 3) := by decide +kernel
theorem dX6_init_4 : decode cX6_init 4 = .ok (.aload_n 0, 1) := by decide +kernel
theorem dX6_init_5 : decode cX6_init 5 = .ok (.bipush 10, 2) := by decide +kernel
theorem dX6_init_7 : decode cX6_init 7 = .ok (.newarray .int, 2) := by decide +kernel
theorem dX6_init_9 : decode cX6_init 9 = .ok (.putfield 9, 3) := by decide +kernel
theorem dX6_init_12 : decode cX6_init 12 = .ok (.aload_n 0, 1) := by decide +kernel
theorem dX6_init_13 : decode cX6_init 13 = .ok (.bipush 10, 2) := by decide +kernel
theorem dX6_init_15 : decode cX6_init 15 = .ok (.newarray .int, 2) := by decide +kernel
theorem dX6_init_17 : decode cX6_init 17 = .ok (.putfield 15, 3) := by decide +kernel
theorem dX6_init_20 : decode cX6_init 20 = .ok (.aload_n 0, 1) := by decide +kernel
theorem dX6_init_21 : decode cX6_init 21 = .ok (.iconst 0, 1) := by decide +kernel
theorem dX6_init_22 : decode cX6_init 22 = .ok (.putfield 18, 3) := by decide +kernel
theorem dX6_init_25 : decode cX6_init 25 = .ok (.aload_n 0, 1) := by decide +kernel
theorem dX6_init_26 : decode cX6_init 26 = .ok (.iconst 0, 1) := by decide +kernel
theorem dX6_init_27 : decode cX6_init 27 = .ok (.putfield 22, 3) := by decide +kernel
theorem dX6_init_30 : decode cX6_init 30 = .ok (.aload_n 0, 1) := by decide +kernel
theorem dX6_init_31 : decode cX6_init 31 = .ok (.iconst 4, 1) := by decide +kernel
theorem dX6_init_32 : decode cX6_init 32 = .ok (.newarray .int, 2) := by decide +kernel
theorem dX6_init_34 : decode cX6_init 34 = .ok (.putfield 25, 3) := by decide +kernel
theorem dX6_init_37 : decode cX6_init 37 = .ok (.aload_n 0, 1) := by decide +kernel
theorem dX6_init_38 : decode cX6_init 38 = .ok (.iconst 4, 1) := by decide +kernel
theorem dX6_init_39 : decode cX6_init 39 = .ok (.newarray .int, 2) := by decide +kernel
theorem dX6_init_41 : decode cX6_init 41 = .ok (.putfield 28, 3) := by decide +kernel
theorem dX6_init_44 : decode cX6_init 44 = .ok (.aload_n 0, 1) := by decide +kernel
theorem dX6_init_45 : decode cX6_init 45 = .ok (.sipush 1008, 3) := by decide +kernel
theorem dX6_init_48 : decode cX6_init 48 = .ok (.newarray .int, 2) := by decide +kernel
theorem dX6_init_50 : decode cX6_init 50 = .ok (.putfield 31, 3) := by decide +kernel
theorem dX6_init_53 : decode cX6_init 53 = .ok (.aload_n 0, 1) := by decide +kernel
theorem dX6_init_54 : decode cX6_init 54 = .ok (.iconst 4, 1) := by decide +kernel
theorem dX6_init_55 : decode cX6_init 55 = .ok (.newarray .int, 2) := by decide +kernel
theorem dX6_init_57 : decode cX6_init 57 = .ok (.putfield 34, 3) := by decide +kernel
theorem dX6_init_60 : decode cX6_init 60 = .ok (.aload_n 0, 1) := by decide +kernel
theorem dX6_init_61 : decode cX6_init 61 = .ok (.iconst 4, 1) := by decide +kernel
theorem dX6_init_62 : decode cX6_init 62 = .ok (.newarray .int, 2) := by decide +kernel
theorem dX6_init_64 : decode cX6_init 64 = .ok (.putfield 37, 3) := by decide +kernel
theorem dX6_init_67 : decode cX6_init 67 = .ok (.aload_n 0, 1) := by decide +kernel
theorem dX6_init_68 : decode cX6_init 68 = .ok (.bipush 55, 2) := by decide +kernel
theorem dX6_init_70 : decode cX6_init 70 = .ok (.newarray .int, 2) := by decide +kernel
theorem dX6_init_72 : decode cX6_init 72 = .ok (.putfield 40, 3) := by decide +kernel
theorem dX6_init_75 : decode cX6_init 75 = .ok (.aload_n 0, 1) := by decide +kernel
theorem dX6_init_76 : decode cX6_init 76 = .ok (.iconst 4, 1) := by decide +kernel
theorem dX6_init_77 : decode cX6_init 77 = .ok (.newarray .int, 2) := by decide +kernel
theorem dX6_init_79 : decode cX6_init 79 = .ok (.putfield 43, 3) := by decide +kernel
theorem dX6_init_82 : decode cX6_init 82 = .ok (.aload_n 0, 1) := by decide +kernel
theorem dX6_init_83 : decode cX6_init 83 = .ok (.iconst 4, 1) := by decide +kernel
theorem dX6_init_84 : decode cX6_init 84 = .ok (.newarray .int, 2) := by decide +kernel
theorem dX6_init_86 : decode cX6_init 86 = .ok (.putfield 46, 3) := by decide +kernel
theorem dX6_init_89 : decode cX6_init 89 = .ok (.aload_n 0, 1) := by decide +kernel
theorem dX6_init_90 : decode cX6_init 90 = .ok (.iconst (-1), 1) := by decide +kernel
theorem dX6_init_91 : decode cX6_init 91 = .ok (.putfield 49, 3) := by decide +kernel
theorem dX6_init_94 : decode cX6_init 94 = .ok (.return_, 1) := by decide +kernel
set_option maxRecDepth 20000 in
set_option maxHeartbeats 4000000 in
theorem i_X6 (E : xE) (l : Launch) (h : Nat) : xV E l yX6_init cX6_init 1 1 10 1107 [.ref h] [ob h 5 [.null, .null, .int 0, .int 0, .null, .null, .null, .null, .null, .null, .null, .null, .int 0]] (fun w => ∃ q0 q1 q2 q3 q4 q5 q6 q7 q8 q9 : Nat, w = VX6 E h q0 q1 q2 q3 q4 q5 q6 q7 q8 q9) := by
  refine xV_start (lv := [(0, .ref h)]) RX6 (by decide) rfl (Nat.le_of_ble_eq_true rfl) rfl (fun p e s m below meth c A C hr hlk hin => ?_)
  refine x_aload_n C dX6_init_0 rfl 0 rfl rfl ?_
  refine x_oinit C w_319 w_28 w_29 dX6_init_1 (Nat.le_of_ble_eq_true rfl) (Nat.le_of_ble_eq_true rfl) rfl ?_
  refine x_aload_n C dX6_init_4 rfl 0 rfl rfl ?_
  refine x_bipush C (v := 10) dX6_init_5 (by decide) rfl ?_
  refine x_newi C 10 w_55 (by decide) (by decide) (by decide) (Nat.le_of_ble_eq_true rfl) (Nat.le_of_ble_eq_true rfl) dX6_init_7 rfl (fun q1 => ?_)
  refine x_ws (ws1 := [ob h 5 [.null, .null, .int 0, .int 0, .null, .null, .null, .null, .null, .null, .null, .null, .int 0], iA E q1 10 (fun _ => 0)]) rfl ?_
  refine x_wide (k := 1) (n := 10) (Nat.le_refl _) (Nat.le_refl _) ?_
  refine x_putF C (ci := 5) (k := 0) (ty := .array .int) (ws1 := [ob h 5 [.ref q1, .null, .int 0, .int 0, .null, .null, .null, .null, .null, .null, .null, .null, .int 0], iA E q1 10 (fun _ => 0)]) hin 0 rfl rfl in_X6 tyX6 tyX6_ok nmX6 (by decide) w_320 rfl rfl rfl rfl rfl (Nat.le_of_ble_eq_true rfl) rfl dX6_init_9 rfl ?_
  refine x_aload_n C dX6_init_12 rfl 0 rfl rfl ?_
  refine x_bipush C (v := 10) dX6_init_13 (by decide) rfl ?_
  refine x_newi C 10 w_55 (by decide) (by decide) (by decide) (Nat.le_of_ble_eq_true rfl) (Nat.le_of_ble_eq_true rfl) dX6_init_15 rfl (fun q2 => ?_)
  refine x_ws (ws1 := [ob h 5 [.ref q1, .null, .int 0, .int 0, .null, .null, .null, .null, .null, .null, .null, .null, .int 0], iA E q1 10 (fun _ => 0), iA E q2 10 (fun _ => 0)]) rfl ?_
  refine x_wide (k := 2) (n := 20) (Nat.le_refl _) (Nat.le_refl _) ?_
  refine x_putF C (ci := 5) (k := 1) (ty := .array .int) (ws1 := [ob h 5 [.ref q1, .ref q2, .int 0, .int 0, .null, .null, .null, .null, .null, .null, .null, .null, .int 0], iA E q1 10 (fun _ => 0), iA E q2 10 (fun _ => 0)]) hin 0 rfl rfl in_X6 tyX6 tyX6_ok nmX6 (by decide) w_321 rfl rfl rfl rfl rfl (Nat.le_of_ble_eq_true rfl) rfl dX6_init_17 rfl ?_
  refine x_aload_n C dX6_init_20 rfl 0 rfl rfl ?_
  refine x_iconst C (v := 0) dX6_init_21 (by decide) rfl ?_
  refine x_put C (ci := 5) (k := 2) (ty := .int) (ws1 := [ob h 5 [.ref q1, .ref q2, .int 0, .int 0, .null, .null, .null, .null, .null, .null, .null, .null, .int 0], iA E q1 10 (fun _ => 0), iA E q2 10 (fun _ => 0)]) 0 rfl rfl in_X6 tyX6 tyX6_ok nmX6 (by decide) w_322 rfl rfl rfl rfl (Nat.le_of_ble_eq_true rfl) rfl dX6_init_22 rfl ?_
  refine x_aload_n C dX6_init_25 rfl 0 rfl rfl ?_
  refine x_iconst C (v := 0) dX6_init_26 (by decide) rfl ?_
  refine x_put C (ci := 5) (k := 3) (ty := .int) (ws1 := [ob h 5 [.ref q1, .ref q2, .int 0, .int 0, .null, .null, .null, .null, .null, .null, .null, .null, .int 0], iA E q1 10 (fun _ => 0), iA E q2 10 (fun _ => 0)]) 0 rfl rfl in_X6 tyX6 tyX6_ok nmX6 (by decide) w_323 rfl rfl rfl rfl (Nat.le_of_ble_eq_true rfl) rfl dX6_init_27 rfl ?_
  refine x_aload_n C dX6_init_30 rfl 0 rfl rfl ?_
  refine x_iconst C (v := 4) dX6_init_31 (by decide) rfl ?_
  refine x_newi C 4 w_55 (by decide) (by decide) (by decide) (Nat.le_of_ble_eq_true rfl) (Nat.le_of_ble_eq_true rfl) dX6_init_32 rfl (fun q3 => ?_)
  refine x_ws (ws1 := [ob h 5 [.ref q1, .ref q2, .int 0, .int 0, .null, .null, .null, .null, .null, .null, .null, .null, .int 0], iA E q1 10 (fun _ => 0), iA E q2 10 (fun _ => 0), iA E q3 4 (fun _ => 0)]) rfl ?_
  refine x_wide (k := 3) (n := 24) (Nat.le_refl _) (Nat.le_refl _) ?_
  refine x_putF C (ci := 5) (k := 4) (ty := .array .int) (ws1 := [ob h 5 [.ref q1, .ref q2, .int 0, .int 0, .ref q3, .null, .null, .null, .null, .null, .null, .null, .int 0], iA E q1 10 (fun _ => 0), iA E q2 10 (fun _ => 0), iA E q3 4 (fun _ => 0)]) hin 0 rfl rfl in_X6 tyX6 tyX6_ok nmX6 (by decide) w_324 rfl rfl rfl rfl rfl (Nat.le_of_ble_eq_true rfl) rfl dX6_init_34 rfl ?_
  refine x_aload_n C dX6_init_37 rfl 0 rfl rfl ?_
  refine x_iconst C (v := 4) dX6_init_38 (by decide) rfl ?_
  refine x_newi C 4 w_55 (by decide) (by decide) (by decide) (Nat.le_of_ble_eq_true rfl) (Nat.le_of_ble_eq_true rfl) dX6_init_39 rfl (fun q4 => ?_)
  refine x_ws (ws1 := [ob h 5 [.ref q1, .ref q2, .int 0, .int 0, .ref q3, .null, .null, .null, .null, .null, .null, .null, .int 0], iA E q1 10 (fun _ => 0), iA E q2 10 (fun _ => 0), iA E q3 4 (fun _ => 0), iA E q4 4 (fun _ => 0)]) rfl ?_
  refine x_wide (k := 4) (n := 28) (Nat.le_refl _) (Nat.le_refl _) ?_
  refine x_putF C (ci := 5) (k := 5) (ty := .array .int) (ws1 := [ob h 5 [.ref q1, .ref q2, .int 0, .int 0, .ref q3, .ref q4, .null, .null, .null, .null, .null, .null, .int 0], iA E q1 10 (fun _ => 0), iA E q2 10 (fun _ => 0), iA E q3 4 (fun _ => 0), iA E q4 4 (fun _ => 0)]) hin 0 rfl rfl in_X6 tyX6 tyX6_ok nmX6 (by decide) w_325 rfl rfl rfl rfl rfl (Nat.le_of_ble_eq_true rfl) rfl dX6_init_41 rfl ?_
  refine x_aload_n C dX6_init_44 rfl 0 rfl rfl ?_
  refine x_sipush C (v := 1008) dX6_init_45 (by decide) rfl ?_
  refine x_newi C 1008 w_55 (by decide) (by decide) (by decide) (Nat.le_of_ble_eq_true rfl) (Nat.le_of_ble_eq_true rfl) dX6_init_48 rfl (fun q5 => ?_)
  refine x_ws (ws1 := [ob h 5 [.ref q1, .ref q2, .int 0, .int 0, .ref q3, .ref q4, .null, .null, .null, .null, .null, .null, .int 0], iA E q1 10 (fun _ => 0), iA E q2 10 (fun _ => 0), iA E q3 4 (fun _ => 0), iA E q4 4 (fun _ => 0), iA E q5 1008 (fun _ => 0)]) rfl ?_
  refine x_wide (k := 5) (n := 1036) (Nat.le_refl _) (Nat.le_refl _) ?_
  refine x_putF C (ci := 5) (k := 6) (ty := .array .int) (ws1 := [ob h 5 [.ref q1, .ref q2, .int 0, .int 0, .ref q3, .ref q4, .ref q5, .null, .null, .null, .null, .null, .int 0], iA E q1 10 (fun _ => 0), iA E q2 10 (fun _ => 0), iA E q3 4 (fun _ => 0), iA E q4 4 (fun _ => 0), iA E q5 1008 (fun _ => 0)]) hin 0 rfl rfl in_X6 tyX6 tyX6_ok nmX6 (by decide) w_326 rfl rfl rfl rfl rfl (Nat.le_of_ble_eq_true rfl) rfl dX6_init_50 rfl ?_
  refine x_aload_n C dX6_init_53 rfl 0 rfl rfl ?_
  refine x_iconst C (v := 4) dX6_init_54 (by decide) rfl ?_
  refine x_newi C 4 w_55 (by decide) (by decide) (by decide) (Nat.le_of_ble_eq_true rfl) (Nat.le_of_ble_eq_true rfl) dX6_init_55 rfl (fun q6 => ?_)
  refine x_ws (ws1 := [ob h 5 [.ref q1, .ref q2, .int 0, .int 0, .ref q3, .ref q4, .ref q5, .null, .null, .null, .null, .null, .int 0], iA E q1 10 (fun _ => 0), iA E q2 10 (fun _ => 0), iA E q3 4 (fun _ => 0), iA E q4 4 (fun _ => 0), iA E q5 1008 (fun _ => 0), iA E q6 4 (fun _ => 0)]) rfl ?_
  refine x_wide (k := 6) (n := 1040) (Nat.le_refl _) (Nat.le_refl _) ?_
  refine x_putF C (ci := 5) (k := 7) (ty := .array .int) (ws1 := [ob h 5 [.ref q1, .ref q2, .int 0, .int 0, .ref q3, .ref q4, .ref q5, .ref q6, .null, .null, .null, .null, .int 0], iA E q1 10 (fun _ => 0), iA E q2 10 (fun _ => 0), iA E q3 4 (fun _ => 0), iA E q4 4 (fun _ => 0), iA E q5 1008 (fun _ => 0), iA E q6 4 (fun _ => 0)]) hin 0 rfl rfl in_X6 tyX6 tyX6_ok nmX6 (by decide) w_327 rfl rfl rfl rfl rfl (Nat.le_of_ble_eq_true rfl) rfl dX6_init_57 rfl ?_
  refine x_aload_n C dX6_init_60 rfl 0 rfl rfl ?_
  refine x_iconst C (v := 4) dX6_init_61 (by decide) rfl ?_
  refine x_newi C 4 w_55 (by decide) (by decide) (by decide) (Nat.le_of_ble_eq_true rfl) (Nat.le_of_ble_eq_true rfl) dX6_init_62 rfl (fun q7 => ?_)
  refine x_ws (ws1 := [ob h 5 [.ref q1, .ref q2, .int 0, .int 0, .ref q3, .ref q4, .ref q5, .ref q6, .null, .null, .null, .null, .int 0], iA E q1 10 (fun _ => 0), iA E q2 10 (fun _ => 0), iA E q3 4 (fun _ => 0), iA E q4 4 (fun _ => 0), iA E q5 1008 (fun _ => 0), iA E q6 4 (fun _ => 0), iA E q7 4 (fun _ => 0)]) rfl ?_
  refine x_wide (k := 7) (n := 1044) (Nat.le_refl _) (Nat.le_refl _) ?_
  refine x_putF C (ci := 5) (k := 8) (ty := .array .int) (ws1 := [ob h 5 [.ref q1, .ref q2, .int 0, .int 0, .ref q3, .ref q4, .ref q5, .ref q6, .ref q7, .null, .null, .null, .int 0], iA E q1 10 (fun _ => 0), iA E q2 10 (fun _ => 0), iA E q3 4 (fun _ => 0), iA E q4 4 (fun _ => 0), iA E q5 1008 (fun _ => 0), iA E q6 4 (fun _ => 0), iA E q7 4 (fun _ => 0)]) hin 0 rfl rfl in_X6 tyX6 tyX6_ok nmX6 (by decide) w_328 rfl rfl rfl rfl rfl (Nat.le_of_ble_eq_true rfl) rfl dX6_init_64 rfl ?_
  refine x_aload_n C dX6_init_67 rfl 0 rfl rfl ?_
  refine x_bipush C (v := 55) dX6_init_68 (by decide) rfl ?_
  refine x_newi C 55 w_55 (by decide) (by decide) (by decide) (Nat.le_of_ble_eq_true rfl) (Nat.le_of_ble_eq_true rfl) dX6_init_70 rfl (fun q8 => ?_)
  refine x_ws (ws1 := [ob h 5 [.ref q1, .ref q2, .int 0, .int 0, .ref q3, .ref q4, .ref q5, .ref q6, .ref q7, .null, .null, .null, .int 0], iA E q1 10 (fun _ => 0), iA E q2 10 (fun _ => 0), iA E q3 4 (fun _ => 0), iA E q4 4 (fun _ => 0), iA E q5 1008 (fun _ => 0), iA E q6 4 (fun _ => 0), iA E q7 4 (fun _ => 0), iA E q8 55 (fun _ => 0)]) rfl ?_
  refine x_wide (k := 8) (n := 1099) (Nat.le_refl _) (Nat.le_refl _) ?_
  refine x_putF C (ci := 5) (k := 9) (ty := .array .int) (ws1 := [ob h 5 [.ref q1, .ref q2, .int 0, .int 0, .ref q3, .ref q4, .ref q5, .ref q6, .ref q7, .ref q8, .null, .null, .int 0], iA E q1 10 (fun _ => 0), iA E q2 10 (fun _ => 0), iA E q3 4 (fun _ => 0), iA E q4 4 (fun _ => 0), iA E q5 1008 (fun _ => 0), iA E q6 4 (fun _ => 0), iA E q7 4 (fun _ => 0), iA E q8 55 (fun _ => 0)]) hin 0 rfl rfl in_X6 tyX6 tyX6_ok nmX6 (by decide) w_329 rfl rfl rfl rfl rfl (Nat.le_of_ble_eq_true rfl) rfl dX6_init_72 rfl ?_
  refine x_aload_n C dX6_init_75 rfl 0 rfl rfl ?_
  refine x_iconst C (v := 4) dX6_init_76 (by decide) rfl ?_
  refine x_newi C 4 w_55 (by decide) (by decide) (by decide) (Nat.le_of_ble_eq_true rfl) (Nat.le_of_ble_eq_true rfl) dX6_init_77 rfl (fun q9 => ?_)
  refine x_ws (ws1 := [ob h 5 [.ref q1, .ref q2, .int 0, .int 0, .ref q3, .ref q4, .ref q5, .ref q6, .ref q7, .ref q8, .null, .null, .int 0], iA E q1 10 (fun _ => 0), iA E q2 10 (fun _ => 0), iA E q3 4 (fun _ => 0), iA E q4 4 (fun _ => 0), iA E q5 1008 (fun _ => 0), iA E q6 4 (fun _ => 0), iA E q7 4 (fun _ => 0), iA E q8 55 (fun _ => 0), iA E q9 4 (fun _ => 0)]) rfl ?_
  refine x_wide (k := 9) (n := 1103) (Nat.le_refl _) (Nat.le_refl _) ?_
  refine x_putF C (ci := 5) (k := 10) (ty := .array .int) (ws1 := [ob h 5 [.ref q1, .ref q2, .int 0, .int 0, .ref q3, .ref q4, .ref q5, .ref q6, .ref q7, .ref q8, .ref q9, .null, .int 0], iA E q1 10 (fun _ => 0), iA E q2 10 (fun _ => 0), iA E q3 4 (fun _ => 0), iA E q4 4 (fun _ => 0), iA E q5 1008 (fun _ => 0), iA E q6 4 (fun _ => 0), iA E q7 4 (fun _ => 0), iA E q8 55 (fun _ => 0), iA E q9 4 (fun _ => 0)]) hin 0 rfl rfl in_X6 tyX6 tyX6_ok nmX6 (by decide) w_330 rfl rfl rfl rfl rfl (Nat.le_of_ble_eq_true rfl) rfl dX6_init_79 rfl ?_
  refine x_aload_n C dX6_init_82 rfl 0 rfl rfl ?_
  refine x_iconst C (v := 4) dX6_init_83 (by decide) rfl ?_
  refine x_newi C 4 w_55 (by decide) (by decide) (by decide) (Nat.le_of_ble_eq_true rfl) (Nat.le_of_ble_eq_true rfl) dX6_init_84 rfl (fun q10 => ?_)
  refine x_ws (ws1 := [ob h 5 [.ref q1, .ref q2, .int 0, .int 0, .ref q3, .ref q4, .ref q5, .ref q6, .ref q7, .ref q8, .ref q9, .null, .int 0], iA E q1 10 (fun _ => 0), iA E q2 10 (fun _ => 0), iA E q3 4 (fun _ => 0), iA E q4 4 (fun _ => 0), iA E q5 1008 (fun _ => 0), iA E q6 4 (fun _ => 0), iA E q7 4 (fun _ => 0), iA E q8 55 (fun _ => 0), iA E q9 4 (fun _ => 0), iA E q10 4 (fun _ => 0)]) rfl ?_
  refine x_wide (k := 10) (n := 1107) (Nat.le_refl _) (Nat.le_refl _) ?_
  refine x_putF C (ci := 5) (k := 11) (ty := .array .int) (ws1 := [ob h 5 [.ref q1, .ref q2, .int 0, .int 0, .ref q3, .ref q4, .ref q5, .ref q6, .ref q7, .ref q8, .ref q9, .ref q10, .int 0], iA E q1 10 (fun _ => 0), iA E q2 10 (fun _ => 0), iA E q3 4 (fun _ => 0), iA E q4 4 (fun _ => 0), iA E q5 1008 (fun _ => 0), iA E q6 4 (fun _ => 0), iA E q7 4 (fun _ => 0), iA E q8 55 (fun _ => 0), iA E q9 4 (fun _ => 0), iA E q10 4 (fun _ => 0)]) hin 0 rfl rfl in_X6 tyX6 tyX6_ok nmX6 (by decide) w_331 rfl rfl rfl rfl rfl (Nat.le_of_ble_eq_true rfl) rfl dX6_init_86 rfl ?_
  refine x_aload_n C dX6_init_89 rfl 0 rfl rfl ?_
  refine x_iconst C (v := (-1)) dX6_init_90 (by decide) rfl ?_
  refine x_put C (ci := 5) (k := 12) (ty := .int) (ws1 := [ob h 5 [.ref q1, .ref q2, .int 0, .int 0, .ref q3, .ref q4, .ref q5, .ref q6, .ref q7, .ref q8, .ref q9, .ref q10, .int (-1)], iA E q1 10 (fun _ => 0), iA E q2 10 (fun _ => 0), iA E q3 4 (fun _ => 0), iA E q4 4 (fun _ => 0), iA E q5 1008 (fun _ => 0), iA E q6 4 (fun _ => 0), iA E q7 4 (fun _ => 0), iA E q8 55 (fun _ => 0), iA E q9 4 (fun _ => 0), iA E q10 4 (fun _ => 0)]) 0 rfl rfl in_X6 tyX6 tyX6_ok nmX6 (by decide) w_332 rfl rfl rfl rfl (Nat.le_of_ble_eq_true rfl) rfl dX6_init_91 rfl ?_
  exact x_vret C hr hlk dX6_init_94 ⟨q1, q2, q3, q4, q5, q6, q7, q8, q9, q10, rfl⟩
theorem dX7_init_0 : decode cX7_init 0 = .ok (.aload_n 0, 1) := by decide +kernel
theorem dX7_init_1 : decode cX7_init 1 = .ok (.invokespecial 3, 3) := by decide +kernel
theorem dX7_init_4 : decode cX7_init 4 = .ok (.aload_n 0, 1) := by decide +kernel
theorem dX7_init_5 : decode cX7_init 5 = .ok (.iconst 0, 1) := by decide +kernel
theorem dX7_init_6 : decode cX7_init 6 = .ok (.putfield 9, 3) := by decide +kernel
theorem dX7_init_9 : decode cX7_init 9 = .ok (.aload_n 0, 1) := by decide +kernel
theorem dX7_init_10 : decode cX7_init 10 = .ok (.bipush (-2), 2) := by decide +kernel
theorem dX7_init_12 : decode cX7_init 12 = .ok (.putfield 15, 3) := by decide +kernel
theorem dX7_init_15 : decode cX7_init 15 = .ok (.aload_n 0, 1) := by decide +kernel
theorem dX7_init_16 : decode cX7_init 16 = .ok (.bipush (-2), 2) := by decide +kernel
theorem dX7_init_18 : decode cX7_init 18 = .ok (.putfield 18, 3) := by decide +kernel
theorem dX7_init_21 : decode cX7_init 21 = .ok (.aload_n 0, 1) := by decide +kernel
theorem dX7_init_22 : decode cX7_init 22 = .ok (.bipush 12, 2) := by decide +kernel
theorem dX7_init_24 : decode cX7_init 24 = .ok (.newarray .int, 2) := by decide +kernel
theorem dX7_init_26 : decode cX7_init 26 = .ok (.putfield 21, 3) := by decide +kernel
theorem dX7_init_29 : decode cX7_init 29 = .ok (.aload_n 0, 1) := by decide +kernel
theorem dX7_init_30 : decode cX7_init 30 = .ok (.iconst 0, 1) := by decide +kernel
theorem dX7_init_31 : decode cX7_init 31 = .ok (.putfield 25, 3) := by decide +kernel
theorem dX7_init_34 : decode cX7_init 34 = .ok (.return_, 1) := by decide +kernel
set_option maxRecDepth 20000 in
set_option maxHeartbeats 4000000 in
theorem i_X7 (E : xE) (l : Launch) (h : Nat) : xV E l yX7_init cX7_init 1 1 1 12 [.ref h] [ob h 6 [.int 0, .int 0, .int 0, .null, .int 0]] (fun w => ∃ q0 : Nat, w = VX7 E h q0) := by
  refine xV_start (lv := [(0, .ref h)]) RX7 (by decide) rfl (Nat.le_of_ble_eq_true rfl) rfl (fun p e s m below meth c A C hr hlk hin => ?_)
  refine x_aload_n C dX7_init_0 rfl 0 rfl rfl ?_
  refine x_oinit C w_365 w_28 w_29 dX7_init_1 (Nat.le_of_ble_eq_true rfl) (Nat.le_of_ble_eq_true rfl) rfl ?_
  refine x_aload_n C dX7_init_4 rfl 0 rfl rfl ?_
  refine x_iconst C (v := 0) dX7_init_5 (by decide) rfl ?_
  refine x_put C (ci := 6) (k := 0) (ty := .int) (ws1 := [ob h 6 [.int 0, .int 0, .int 0, .null, .int 0]]) 0 rfl rfl in_X7 tyX7 tyX7_ok nmX7 (by decide) w_366 rfl rfl rfl rfl (Nat.le_of_ble_eq_true rfl) rfl dX7_init_6 rfl ?_
  refine x_aload_n C dX7_init_9 rfl 0 rfl rfl ?_
  refine x_bipush C (v := (-2)) dX7_init_10 (by decide) rfl ?_
  refine x_put C (ci := 6) (k := 1) (ty := .int) (ws1 := [ob h 6 [.int 0, .int (-2), .int 0, .null, .int 0]]) 0 rfl rfl in_X7 tyX7 tyX7_ok nmX7 (by decide) w_368 rfl rfl rfl rfl (Nat.le_of_ble_eq_true rfl) rfl dX7_init_12 rfl ?_
  refine x_aload_n C dX7_init_15 rfl 0 rfl rfl ?_
  refine x_bipush C (v := (-2)) dX7_init_16 (by decide) rfl ?_
  refine x_put C (ci := 6) (k := 2) (ty := .int) (ws1 := [ob h 6 [.int 0, .int (-2), .int (-2), .null, .int 0]]) 0 rfl rfl in_X7 tyX7 tyX7_ok nmX7 (by decide) w_370 rfl rfl rfl rfl (Nat.le_of_ble_eq_true rfl) rfl dX7_init_18 rfl ?_
  refine x_aload_n C dX7_init_21 rfl 0 rfl rfl ?_
  refine x_bipush C (v := 12) dX7_init_22 (by decide) rfl ?_
  refine x_newi C 12 w_55 (by decide) (by decide) (by decide) (Nat.le_of_ble_eq_true rfl) (Nat.le_of_ble_eq_true rfl) dX7_init_24 rfl (fun q1 => ?_)
  refine x_ws (ws1 := [ob h 6 [.int 0, .int (-2), .int (-2), .null, .int 0], iA E q1 12 (fun _ => 0)]) rfl ?_
  refine x_wide (k := 1) (n := 12) (Nat.le_refl _) (Nat.le_refl _) ?_
  refine x_putF C (ci := 6) (k := 3) (ty := .array .int) (ws1 := [ob h 6 [.int 0, .int (-2), .int (-2), .ref q1, .int 0], iA E q1 12 (fun _ => 0)]) hin 0 rfl rfl in_X7 tyX7 tyX7_ok nmX7 (by decide) w_372 rfl rfl rfl rfl rfl (Nat.le_of_ble_eq_true rfl) rfl dX7_init_26 rfl ?_
  refine x_aload_n C dX7_init_29 rfl 0 rfl rfl ?_
  refine x_iconst C (v := 0) dX7_init_30 (by decide) rfl ?_
  refine x_put C (ci := 6) (k := 4) (ty := .int) (ws1 := [ob h 6 [.int 0, .int (-2), .int (-2), .ref q1, .int 0], iA E q1 12 (fun _ => 0)]) 0 rfl rfl in_X7 tyX7 tyX7_ok nmX7 (by decide) w_373 rfl rfl rfl rfl (Nat.le_of_ble_eq_true rfl) rfl dX7_init_31 rfl ?_
  exact x_vret C hr hlk dX7_init_34 ⟨q1, rfl⟩
theorem dX9_init_0 : decode cX9_init 0 = .ok (.aload_n 0, 1) := by decide +kernel
theorem dX9_init_1 : decode cX9_init 1 = .ok (.invokespecial 3, 3) := by decide +kernel
theorem dX9_init_4 : decode cX9_init 4 = .ok (.aload_n 0, 1) := by decide +kernel
theorem dX9_init_5 : decode cX9_init 5 = .ok (.iconst 0, 1) := by decide +kernel
theorem dX9_init_6 : decode cX9_init 6 = .ok (.putfield 9, 3) := by decide +kernel
theorem dX9_init_9 : decode cX9_init 9 = .ok (.aload_n 0, 1) := by decide +kernel
theorem dX9_init_10 : decode cX9_init 10 = .ok (.iconst 1, 1) := by decide +kernel
theorem dX9_init_11 : decode cX9_init 11 = .ok (.putfield 15, 3) := by decide +kernel
theorem dX9_init_14 : decode cX9_init 14 = .ok (.aload_n 0, 1) := by decide +kernel
theorem dX9_init_15 : decode cX9_init 15 = .ok (.new 18, 3) := by decide +kernel
theorem dX9_init_18 : decode cX9_init 18 = .ok (.dup, 1) := by decide +kernel
theorem dX9_init_19 : decode cX9_init 19 = .ok (.invokespecial 20, 3) := by decide +kernel
theorem dX9_init_22 : decode cX9_init 22 = .ok (.putfield 21, 3) := by decide +kernel
theorem dX9_init_25 : decode cX9_init 25 = .ok (.aload_n 0, 1) := by decide +kernel
theorem dX9_init_26 : decode cX9_init 26 = .ok (.new 25, 3) := by decide +kernel
theorem dX9_init_29 : decode cX9_init 29 = .ok (.dup, 1) := by decide +kernel
theorem dX9_init_30 : decode cX9_init 30 = .ok (.invokespecial 27, 3) := by decide +kernel
theorem dX9_init_33 : decode cX9_init 33 = .ok (.putfield 28, 3) := by decide +kernel
theorem dX9_init_36 : decode cX9_init 36 = .ok (.aload_n 0, 1) := by decide +kernel
theorem dX9_init_37 : decode cX9_init 37 = .ok (.new 32, 3) := by decide +kernel
theorem dX9_init_40 : decode cX9_init 40 = .ok (.dup, 1) := by decide +kernel
theorem dX9_init_41 : decode cX9_init 41 = .ok (.invokespecial 34, 3) := by decide +kernel
theorem dX9_init_44 : decode cX9_init 44 = .ok (.putfield 35, 3) := by decide +kernel
theorem dX9_init_47 : decode cX9_init 47 = .ok (.aload_n 0, 1) := by decide +kernel
theorem dX9_init_48 : decode cX9_init 48 = .ok (.new 39, 3) := by decide +kernel
theorem dX9_init_51 : decode cX9_init 51 = .ok (.dup, 1) := by decide +kernel
theorem dX9_init_52 : decode cX9_init 52 = .ok (.invokespecial 41, 3) := by decide +kernel
theorem dX9_init_55 : decode cX9_init 55 = .ok (.putfield 42, 3) := by decide +kernel
theorem dX9_init_58 : decode cX9_init 58 = .ok (.aload_n 0, 1) := by decide +kernel
theorem dX9_init_59 : decode cX9_init 59 = .ok (.iconst 0, 1) := by decide +kernel
theorem dX9_init_60 : decode cX9_init 60 = .ok (.putfield 46, 3) := by decide +kernel
theorem dX9_init_63 : decode cX9_init 63 = .ok (.aload_n 0, 1) := by decide +kernel
theorem dX9_init_64 : decode cX9_init 64 = .ok (.iconst 0, 1) := by decide +kernel
theorem dX9_init_65 : decode cX9_init 65 = .ok (.putfield 49, 3) := by decide +kernel
theorem dX9_init_68 : decode cX9_init 68 = .ok (.aload_n 0, 1) := by decide +kernel
theorem dX9_init_69 : decode cX9_init 69 = .ok (.iconst 0, 1) := by decide +kernel
theorem dX9_init_70 : decode cX9_init 70 = .ok (.putfield 52, 3) := by decide +kernel
theorem dX9_init_73 : decode cX9_init 73 = .ok (.aload_n 0, 1) := by decide +kernel
theorem dX9_init_74 : decode cX9_init 74 = .ok (.iconst 0, 1) := by decide +kernel
theorem dX9_init_75 : decode cX9_init 75 = .ok (.putfield 55, 3) := by decide +kernel
theorem dX9_init_78 : decode cX9_init 78 = .ok (.return_, 1) := by decide +kernel
set_option maxRecDepth 20000 in
set_option maxHeartbeats 4000000 in
theorem i_X9 (E : xE) (l : Launch) (h : Nat) : xV E l yX9_init cX9_init 1 2 21 397 [.ref h] [ob h 8 [.int 0, .int 0, .null, .null, .null, .null, .int 0, .int 0, .int 0, .int 0]] (fun w => ∃ a1 a2 a3 a4 a5 a6 a7 a8 a9 a10 a11 a12 a13 a14 a15 a16 a17 a18 a19 a20 a21 : Nat, w = VX9 E h a1 a2 a3 a4 a5 a6 a7 a8 a9 a10 a11 a12 a13 a14 a15 a16 a17 a18 a19 a20 a21) := by
  refine xV_start (lv := [(0, .ref h)]) RX9 (by decide) rfl (Nat.le_of_ble_eq_true rfl) rfl (fun p e s m below meth c A C hr hlk hin => ?_)
  refine x_ws (ws1 := (ob h 8 [.int 0, .int 0, .null, .null, .null, .null, .int 0, .int 0, .int 0, .int 0]) :: []) rfl ?_
  refine x_aload_n C dX9_init_0 rfl 0 rfl rfl ?_
  refine x_oinit C w_61 w_28 w_29 dX9_init_1 (Nat.le_of_ble_eq_true rfl) (Nat.le_of_ble_eq_true rfl) rfl ?_
  refine x_aload_n C dX9_init_4 rfl 0 rfl rfl ?_
  refine x_iconst C (v := 0) dX9_init_5 (by decide) rfl ?_
  refine x_put C (ci := 8) (k := 0) (ty := .int) (ws1 := (ob h 8 [.int 0, .int 0, .null, .null, .null, .null, .int 0, .int 0, .int 0, .int 0]) :: []) 0 rfl rfl in_X9 tyX9 tyX9_ok nmX9 (by decide) w_195 rfl rfl rfl rfl (Nat.le_of_ble_eq_true rfl) rfl dX9_init_6 rfl ?_
  refine x_aload_n C dX9_init_9 rfl 0 rfl rfl ?_
  refine x_iconst C (v := 1) dX9_init_10 (by decide) rfl ?_
  refine x_put C (ci := 8) (k := 1) (ty := .int) (ws1 := (ob h 8 [.int 0, .int 1, .null, .null, .null, .null, .int 0, .int 0, .int 0, .int 0]) :: []) 0 rfl rfl in_X9 tyX9 tyX9_ok nmX9 (by decide) w_198 rfl rfl rfl rfl (Nat.le_of_ble_eq_true rfl) rfl dX9_init_11 rfl ?_
  refine x_aload_n C dX9_init_14 rfl 0 rfl rfl ?_
  refine x_new C (ci := 2) (fs := [.int 0, .null, .null]) rfl in_X2 tyX2 tyX2_ok w_62 w_63 w_4 (dv_X2) (Nat.le_of_ble_eq_true rfl) (Nat.le_of_ble_eq_true rfl) dX9_init_15 rfl (fun q1 => ?_)
  refine x_wide (k := 1) (n := 3) (Nat.le_refl _) (Nat.le_refl _) ?_
  refine x_dup C dX9_init_18 rfl rfl ?_
  refine x_nn C (As := []) (rest := [.ref q1, .ref h]) (W0 := (ob h 8 [.int 0, .int 1, .null, .null, .null, .null, .int 0, .int 0, .int 0, .int 0]) :: []) (wc := [ob q1 2 [.int 0, .null, .null]]) (i_X2 E l q1) mf_X2_init n_64 rfl rfl rfl (Nat.le_of_ble_eq_true rfl) ⟨(Nat.le_of_ble_eq_true rfl), (Nat.le_of_ble_eq_true rfl)⟩ ⟨(Nat.le_of_ble_eq_true rfl), (Nat.le_of_ble_eq_true rfl)⟩ dX9_init_19 rfl (fun w2 h3 => ?_)
  obtain ⟨q4, q5, e6⟩ := h3
  refine x_ws (ws1 := (ob h 8 [.int 0, .int 1, .null, .null, .null, .null, .int 0, .int 0, .int 0, .int 0]) :: ([] ++ VX2 E q1 q4 q5)) (by rw [e6]; rfl) ?_
  refine x_wide (k := 3) (n := 19) (Nat.le_refl _) (Nat.le_refl _) ?_
  refine x_putF C (ci := 8) (k := 2) (ty := .object "EggTown$Hens") (ws1 := (ob h 8 [.int 0, .int 1, .ref q1, .null, .null, .null, .int 0, .int 0, .int 0, .int 0]) :: ([] ++ VX2 E q1 q4 q5)) hin 0 rfl rfl in_X9 tyX9 tyX9_ok nmX9 (by decide) w_200 rfl rfl rfl rfl rfl (Nat.le_of_ble_eq_true rfl) rfl dX9_init_22 rfl ?_
  refine x_aload_n C dX9_init_25 rfl 0 rfl rfl ?_
  refine x_new C (ci := 4) (fs := [.int 0, .null, .null, .null, .null]) rfl in_X5 tyX5 tyX5_ok w_84 w_85 w_5 (dv_X5) (Nat.le_of_ble_eq_true rfl) (Nat.le_of_ble_eq_true rfl) dX9_init_26 rfl (fun q7 => ?_)
  refine x_wide (k := 4) (n := 24) (Nat.le_refl _) (Nat.le_refl _) ?_
  refine x_dup C dX9_init_29 rfl rfl ?_
  refine x_nn C (As := []) (rest := [.ref q7, .ref h]) (W0 := (ob h 8 [.int 0, .int 1, .ref q1, .null, .null, .null, .int 0, .int 0, .int 0, .int 0]) :: ([] ++ VX2 E q1 q4 q5)) (wc := [ob q7 4 [.int 0, .null, .null, .null, .null]]) (i_X5 E l q7) mf_X5_init n_86 rfl rfl rfl (Nat.le_of_ble_eq_true rfl) ⟨(Nat.le_of_ble_eq_true rfl), (Nat.le_of_ble_eq_true rfl)⟩ ⟨(Nat.le_of_ble_eq_true rfl), (Nat.le_of_ble_eq_true rfl)⟩ dX9_init_30 rfl (fun w8 h9 => ?_)
  obtain ⟨q10, q11, q12, q13, e14⟩ := h9
  refine x_ws (ws1 := (ob h 8 [.int 0, .int 1, .ref q1, .null, .null, .null, .int 0, .int 0, .int 0, .int 0]) :: (([] ++ VX2 E q1 q4 q5) ++ VX5 E q7 q10 q11 q12 q13)) (by rw [e14]; rfl) ?_
  refine x_wide (k := 8) (n := 56) (Nat.le_refl _) (Nat.le_refl _) ?_
  refine x_putF C (ci := 8) (k := 3) (ty := .object "EggTown$People") (ws1 := (ob h 8 [.int 0, .int 1, .ref q1, .ref q7, .null, .null, .int 0, .int 0, .int 0, .int 0]) :: (([] ++ VX2 E q1 q4 q5) ++ VX5 E q7 q10 q11 q12 q13)) hin 0 rfl rfl in_X9 tyX9 tyX9_ok nmX9 (by decide) w_203 rfl rfl rfl rfl rfl (Nat.le_of_ble_eq_true rfl) rfl dX9_init_33 rfl ?_
  refine x_aload_n C dX9_init_36 rfl 0 rfl rfl ?_
  refine x_new C (ci := 1) (fs := [.int 0, .null, .null, .null, .null, .null, .null]) rfl in_X1 tyX1 tyX1_ok w_114 w_115 w_6 (dv_X1) (Nat.le_of_ble_eq_true rfl) (Nat.le_of_ble_eq_true rfl) dX9_init_37 rfl (fun q15 => ?_)
  refine x_wide (k := 9) (n := 63) (Nat.le_refl _) (Nat.le_refl _) ?_
  refine x_dup C dX9_init_40 rfl rfl ?_
  refine x_nn C (As := []) (rest := [.ref q15, .ref h]) (W0 := (ob h 8 [.int 0, .int 1, .ref q1, .ref q7, .null, .null, .int 0, .int 0, .int 0, .int 0]) :: (([] ++ VX2 E q1 q4 q5) ++ VX5 E q7 q10 q11 q12 q13)) (wc := [ob q15 1 [.int 0, .null, .null, .null, .null, .null, .null]]) (i_X1 E l q15) mf_X1_init n_116 rfl rfl rfl (Nat.le_of_ble_eq_true rfl) ⟨(Nat.le_of_ble_eq_true rfl), (Nat.le_of_ble_eq_true rfl)⟩ ⟨(Nat.le_of_ble_eq_true rfl), (Nat.le_of_ble_eq_true rfl)⟩ dX9_init_41 rfl (fun w16 h17 => ?_)
  obtain ⟨q18, q19, q20, q21, q22, q23, e24⟩ := h17
  refine x_ws (ws1 := (ob h 8 [.int 0, .int 1, .ref q1, .ref q7, .null, .null, .int 0, .int 0, .int 0, .int 0]) :: ((([] ++ VX2 E q1 q4 q5) ++ VX5 E q7 q10 q11 q12 q13) ++ VX1 E q15 q18 q19 q20 q21 q22 q23)) (by rw [e24]; rfl) ?_
  refine x_wide (k := 15) (n := 351) (Nat.le_refl _) (Nat.le_refl _) ?_
  refine x_putF C (ci := 8) (k := 4) (ty := .object "EggTown$Eggs") (ws1 := (ob h 8 [.int 0, .int 1, .ref q1, .ref q7, .ref q15, .null, .int 0, .int 0, .int 0, .int 0]) :: ((([] ++ VX2 E q1 q4 q5) ++ VX5 E q7 q10 q11 q12 q13) ++ VX1 E q15 q18 q19 q20 q21 q22 q23)) hin 0 rfl rfl in_X9 tyX9 tyX9_ok nmX9 (by decide) w_206 rfl rfl rfl rfl rfl (Nat.le_of_ble_eq_true rfl) rfl dX9_init_44 rfl ?_
  refine x_aload_n C dX9_init_47 rfl 0 rfl rfl ?_
  refine x_new C (ci := 9) (fs := [.int 0, .null, .null, .null, .null, .null]) rfl in_X10 tyX10 tyX10_ok w_162 w_163 w_7 (dv_X10) (Nat.le_of_ble_eq_true rfl) (Nat.le_of_ble_eq_true rfl) dX9_init_48 rfl (fun q25 => ?_)
  refine x_wide (k := 16) (n := 357) (Nat.le_refl _) (Nat.le_refl _) ?_
  refine x_dup C dX9_init_51 rfl rfl ?_
  refine x_nn C (As := []) (rest := [.ref q25, .ref h]) (W0 := (ob h 8 [.int 0, .int 1, .ref q1, .ref q7, .ref q15, .null, .int 0, .int 0, .int 0, .int 0]) :: ((([] ++ VX2 E q1 q4 q5) ++ VX5 E q7 q10 q11 q12 q13) ++ VX1 E q15 q18 q19 q20 q21 q22 q23)) (wc := [ob q25 9 [.int 0, .null, .null, .null, .null, .null]]) (i_X10 E l q25) mf_X10_init n_164 rfl rfl rfl (Nat.le_of_ble_eq_true rfl) ⟨(Nat.le_of_ble_eq_true rfl), (Nat.le_of_ble_eq_true rfl)⟩ ⟨(Nat.le_of_ble_eq_true rfl), (Nat.le_of_ble_eq_true rfl)⟩ dX9_init_52 rfl (fun w26 h27 => ?_)
  obtain ⟨q28, q29, q30, q31, q32, e33⟩ := h27
  refine x_ws (ws1 := (ob h 8 [.int 0, .int 1, .ref q1, .ref q7, .ref q15, .null, .int 0, .int 0, .int 0, .int 0]) :: (((([] ++ VX2 E q1 q4 q5) ++ VX5 E q7 q10 q11 q12 q13) ++ VX1 E q15 q18 q19 q20 q21 q22 q23) ++ VX10 E q25 q28 q29 q30 q31 q32)) (by rw [e33]; rfl) ?_
  refine x_wide (k := 21) (n := 397) (Nat.le_refl _) (Nat.le_refl _) ?_
  refine x_putF C (ci := 8) (k := 5) (ty := .object "EggTown$Works") (ws1 := (ob h 8 [.int 0, .int 1, .ref q1, .ref q7, .ref q15, .ref q25, .int 0, .int 0, .int 0, .int 0]) :: (((([] ++ VX2 E q1 q4 q5) ++ VX5 E q7 q10 q11 q12 q13) ++ VX1 E q15 q18 q19 q20 q21 q22 q23) ++ VX10 E q25 q28 q29 q30 q31 q32)) hin 0 rfl rfl in_X9 tyX9 tyX9_ok nmX9 (by decide) w_211 rfl rfl rfl rfl rfl (Nat.le_of_ble_eq_true rfl) rfl dX9_init_55 rfl ?_
  refine x_aload_n C dX9_init_58 rfl 0 rfl rfl ?_
  refine x_iconst C (v := 0) dX9_init_59 (by decide) rfl ?_
  refine x_put C (ci := 8) (k := 6) (ty := .int) (ws1 := (ob h 8 [.int 0, .int 1, .ref q1, .ref q7, .ref q15, .ref q25, .int 0, .int 0, .int 0, .int 0]) :: (((([] ++ VX2 E q1 q4 q5) ++ VX5 E q7 q10 q11 q12 q13) ++ VX1 E q15 q18 q19 q20 q21 q22 q23) ++ VX10 E q25 q28 q29 q30 q31 q32)) 0 rfl rfl in_X9 tyX9 tyX9_ok nmX9 (by decide) w_215 rfl rfl rfl rfl (Nat.le_of_ble_eq_true rfl) rfl dX9_init_60 rfl ?_
  refine x_aload_n C dX9_init_63 rfl 0 rfl rfl ?_
  refine x_iconst C (v := 0) dX9_init_64 (by decide) rfl ?_
  refine x_put C (ci := 8) (k := 7) (ty := .int) (ws1 := (ob h 8 [.int 0, .int 1, .ref q1, .ref q7, .ref q15, .ref q25, .int 0, .int 0, .int 0, .int 0]) :: (((([] ++ VX2 E q1 q4 q5) ++ VX5 E q7 q10 q11 q12 q13) ++ VX1 E q15 q18 q19 q20 q21 q22 q23) ++ VX10 E q25 q28 q29 q30 q31 q32)) 0 rfl rfl in_X9 tyX9 tyX9_ok nmX9 (by decide) w_217 rfl rfl rfl rfl (Nat.le_of_ble_eq_true rfl) rfl dX9_init_65 rfl ?_
  refine x_aload_n C dX9_init_68 rfl 0 rfl rfl ?_
  refine x_iconst C (v := 0) dX9_init_69 (by decide) rfl ?_
  refine x_put C (ci := 8) (k := 8) (ty := .int) (ws1 := (ob h 8 [.int 0, .int 1, .ref q1, .ref q7, .ref q15, .ref q25, .int 0, .int 0, .int 0, .int 0]) :: (((([] ++ VX2 E q1 q4 q5) ++ VX5 E q7 q10 q11 q12 q13) ++ VX1 E q15 q18 q19 q20 q21 q22 q23) ++ VX10 E q25 q28 q29 q30 q31 q32)) 0 rfl rfl in_X9 tyX9 tyX9_ok nmX9 (by decide) w_219 rfl rfl rfl rfl (Nat.le_of_ble_eq_true rfl) rfl dX9_init_70 rfl ?_
  refine x_aload_n C dX9_init_73 rfl 0 rfl rfl ?_
  refine x_iconst C (v := 0) dX9_init_74 (by decide) rfl ?_
  refine x_put C (ci := 8) (k := 9) (ty := .int) (ws1 := (ob h 8 [.int 0, .int 1, .ref q1, .ref q7, .ref q15, .ref q25, .int 0, .int 0, .int 0, .int 0]) :: (((([] ++ VX2 E q1 q4 q5) ++ VX5 E q7 q10 q11 q12 q13) ++ VX1 E q15 q18 q19 q20 q21 q22 q23) ++ VX10 E q25 q28 q29 q30 q31 q32)) 0 rfl rfl in_X9 tyX9 tyX9_ok nmX9 (by decide) w_221 rfl rfl rfl rfl (Nat.le_of_ble_eq_true rfl) rfl dX9_init_75 rfl ?_
  exact x_vret C hr hlk dX9_init_78 ⟨q1, q4, q5, q7, q10, q11, q12, q13, q15, q18, q19, q20, q21, q22, q23, q25, q28, q29, q30, q31, q32, rfl⟩
theorem dX11_init_0 : decode cX11_init 0 = .ok (.aload_n 0, 1) := by decide +kernel
theorem dX11_init_1 : decode cX11_init 1 = .ok (.invokespecial 1, 3) := by decide +kernel
theorem dX11_init_4 : decode cX11_init 4 = .ok (.aload_n 0, 1) := by decide +kernel
theorem dX11_init_5 : decode cX11_init 5 = .ok (.new 7, 3) := by decide +kernel
theorem dX11_init_8 : decode cX11_init 8 = .ok (.dup, 1) := by decide +kernel
theorem dX11_init_9 : decode cX11_init 9 = .ok (.invokespecial 9, 3) := by decide +kernel
theorem dX11_init_12 : decode cX11_init 12 = .ok (.putfield 10, 3) := by decide +kernel
theorem dX11_init_15 : decode cX11_init 15 = .ok (.aload_n 0, 1) := by decide +kernel
theorem dX11_init_16 : decode cX11_init 16 = .ok (.new 7, 3) := by decide +kernel
theorem dX11_init_19 : decode cX11_init 19 = .ok (.dup, 1) := by decide +kernel
theorem dX11_init_20 : decode cX11_init 20 = .ok (.invokespecial 9, 3) := by decide +kernel
theorem dX11_init_23 : decode cX11_init 23 = .ok (.putfield 16, 3) := by decide +kernel
theorem dX11_init_26 : decode cX11_init 26 = .ok (.aload_n 0, 1) := by decide +kernel
theorem dX11_init_27 : decode cX11_init 27 = .ok (.new 19, 3) := by decide +kernel
theorem dX11_init_30 : decode cX11_init 30 = .ok (.dup, 1) := by decide +kernel
theorem dX11_init_31 : decode cX11_init 31 = .ok (.invokespecial 21, 3) := by decide +kernel
theorem dX11_init_34 : decode cX11_init 34 = .ok (.putfield 22, 3) := by decide +kernel
theorem dX11_init_37 : decode cX11_init 37 = .ok (.aload_n 0, 1) := by decide +kernel
theorem dX11_init_38 : decode cX11_init 38 = .ok (.new 19, 3) := by decide +kernel
theorem dX11_init_41 : decode cX11_init 41 = .ok (.dup, 1) := by decide +kernel
theorem dX11_init_42 : decode cX11_init 42 = .ok (.invokespecial 21, 3) := by decide +kernel
theorem dX11_init_45 : decode cX11_init 45 = .ok (.putfield 26, 3) := by decide +kernel
theorem dX11_init_48 : decode cX11_init 48 = .ok (.aload_n 0, 1) := by decide +kernel
theorem dX11_init_49 : decode cX11_init 49 = .ok (.new 19, 3) := by decide +kernel
theorem dX11_init_52 : decode cX11_init 52 = .ok (.dup, 1) := by decide +kernel
theorem dX11_init_53 : decode cX11_init 53 = .ok (.invokespecial 21, 3) := by decide +kernel
theorem dX11_init_56 : decode cX11_init 56 = .ok (.putfield 29, 3) := by decide +kernel
theorem dX11_init_59 : decode cX11_init 59 = .ok (.aload_n 0, 1) := by decide +kernel
theorem dX11_init_60 : decode cX11_init 60 = .ok (.iconst 0, 1) := by decide +kernel
theorem dX11_init_61 : decode cX11_init 61 = .ok (.putfield 32, 3) := by decide +kernel
theorem dX11_init_64 : decode cX11_init 64 = .ok (.aload_n 0, 1) := by decide +kernel
theorem dX11_init_65 : decode cX11_init 65 = .ok (.new 36, 3) := by decide +kernel
theorem dX11_init_68 : decode cX11_init 68 = .ok (.dup, 1) := by decide +kernel
theorem dX11_init_69 : decode cX11_init 69 = .ok (.invokespecial 38, 3) := by decide +kernel
theorem dX11_init_72 : decode cX11_init 72 = .ok (.putfield 39, 3) := by decide +kernel
theorem dX11_init_75 : decode cX11_init 75 = .ok (.aload_n 0, 1) := by decide +kernel
theorem dX11_init_76 : decode cX11_init 76 = .ok (.new 36, 3) := by decide +kernel
theorem dX11_init_79 : decode cX11_init 79 = .ok (.dup, 1) := by decide +kernel
theorem dX11_init_80 : decode cX11_init 80 = .ok (.invokespecial 38, 3) := by decide +kernel
theorem dX11_init_83 : decode cX11_init 83 = .ok (.putfield 43, 3) := by decide +kernel
theorem dX11_init_86 : decode cX11_init 86 = .ok (.aload_n 0, 1) := by decide +kernel
theorem dX11_init_87 : decode cX11_init 87 = .ok (.new 46, 3) := by decide +kernel
theorem dX11_init_90 : decode cX11_init 90 = .ok (.dup, 1) := by decide +kernel
theorem dX11_init_91 : decode cX11_init 91 = .ok (.invokespecial 48, 3) := by decide +kernel
theorem dX11_init_94 : decode cX11_init 94 = .ok (.putfield 49, 3) := by decide +kernel
theorem dX11_init_97 : decode cX11_init 97 = .ok (.aload_n 0, 1) := by decide +kernel
theorem dX11_init_98 : decode cX11_init 98 = .ok (.new 53, 3) := by decide +kernel
theorem dX11_init_101 : decode cX11_init 101 = .ok (.dup, 1) := by decide +kernel
theorem dX11_init_102 : decode cX11_init 102 = .ok (.invokespecial 55, 3) := by decide +kernel
theorem dX11_init_105 : decode cX11_init 105 = .ok (.putfield 56, 3) := by decide +kernel
theorem dX11_init_108 : decode cX11_init 108 = .ok (.aload_n 0, 1) := by decide +kernel
theorem dX11_init_109 : decode cX11_init 109 = .ok (.new 60, 3) := by decide +kernel
theorem dX11_init_112 : decode cX11_init 112 = .ok (.dup, 1) := by decide +kernel
theorem dX11_init_113 : decode cX11_init 113 = .ok (.invokespecial 62, 3) := by decide +kernel
theorem dX11_init_116 : decode cX11_init 116 = .ok (.putfield 63, 3) := by decide +kernel
theorem dX11_init_119 : decode cX11_init 119 = .ok (.aload_n 0, 1) := by decide +kernel
theorem dX11_init_120 : decode cX11_init 120 = .ok (.bipush 48, 2) := by decide +kernel
theorem dX11_init_122 : decode cX11_init 122 = .ok (.newarray .int, 2) := by decide +kernel
theorem dX11_init_124 : decode cX11_init 124 = .ok (.putfield 67, 3) := by decide +kernel
theorem dX11_init_127 : decode cX11_init 127 = .ok (.aload_n 0, 1) := by decide +kernel
theorem dX11_init_128 : decode cX11_init 128 = .ok (.bipush 48, 2) := by decide +kernel
theorem dX11_init_130 : decode cX11_init 130 = .ok (.newarray .int, 2) := by decide +kernel
theorem dX11_init_132 : decode cX11_init 132 = .ok (.putfield 71, 3) := by decide +kernel
theorem dX11_init_135 : decode cX11_init 135 = .ok (.aload_n 0, 1) := by decide +kernel
theorem dX11_init_136 : decode cX11_init 136 = .ok (.bipush 40, 2) := by decide +kernel
theorem dX11_init_138 : decode cX11_init 138 = .ok (.newarray .int, 2) := by decide +kernel
theorem dX11_init_140 : decode cX11_init 140 = .ok (.putfield 74, 3) := by decide +kernel
theorem dX11_init_143 : decode cX11_init 143 = .ok (.aload_n 0, 1) := by decide +kernel
theorem dX11_init_144 : decode cX11_init 144 = .ok (.bipush 21, 2) := by decide +kernel
theorem dX11_init_146 : decode cX11_init 146 = .ok (.newarray .int, 2) := by decide +kernel
theorem dX11_init_148 : decode cX11_init 148 = .ok (.putfield 77, 3) := by decide +kernel
theorem dX11_init_151 : decode cX11_init 151 = .ok (.aload_n 0, 1) := by decide +kernel
theorem dX11_init_152 : decode cX11_init 152 = .ok (.iconst 3, 1) := by decide +kernel
theorem dX11_init_153 : decode cX11_init 153 = .ok (.newarray .int, 2) := by decide +kernel
theorem dX11_init_155 : decode cX11_init 155 = .ok (.putfield 80, 3) := by decide +kernel
theorem dX11_init_158 : decode cX11_init 158 = .ok (.aload_n 0, 1) := by decide +kernel
theorem dX11_init_159 : decode cX11_init 159 = .ok (.bipush 8, 2) := by decide +kernel
theorem dX11_init_161 : decode cX11_init 161 = .ok (.newarray .int, 2) := by decide +kernel
theorem dX11_init_163 : decode cX11_init 163 = .ok (.putfield 83, 3) := by decide +kernel
theorem dX11_init_166 : decode cX11_init 166 = .ok (.aload_n 0, 1) := by decide +kernel
theorem dX11_init_167 : decode cX11_init 167 = .ok (.bipush 8, 2) := by decide +kernel
theorem dX11_init_169 : decode cX11_init 169 = .ok (.newarray .int, 2) := by decide +kernel
theorem dX11_init_171 : decode cX11_init 171 = .ok (.putfield 86, 3) := by decide +kernel
theorem dX11_init_174 : decode cX11_init 174 = .ok (.aload_n 0, 1) := by decide +kernel
theorem dX11_init_175 : decode cX11_init 175 = .ok (.bipush 7, 2) := by decide +kernel
theorem dX11_init_177 : decode cX11_init 177 = .ok (.newarray .int, 2) := by decide +kernel
theorem dX11_init_179 : decode cX11_init 179 = .ok (.putfield 89, 3) := by decide +kernel
theorem dX11_init_182 : decode cX11_init 182 = .ok (.return_, 1) := by decide +kernel
set_option maxRecDepth 20000 in
set_option maxHeartbeats 4000000 in
theorem i_X11 (E : xE) (l : Launch) (h : Nat) : xV E l yX11_init cX11_init 1 4 112 4068 [.ref h] [ob h 10 [.null, .null, .null, .null, .null, .int 0, .null, .null, .null, .null, .null, .null, .null, .null, .null, .null, .null, .null, .null]] (fun w => FX E h 0 0 0 0 0 w) := by
  refine xV_start (lv := [(0, .ref h)]) RX11 (by decide) rfl (Nat.le_of_ble_eq_true rfl) rfl (fun p e s m below meth c A C hr hlk hin => ?_)
  refine x_ws (ws1 := (ob h 10 [.null, .null, .null, .null, .null, .int 0, .null, .null, .null, .null, .null, .null, .null, .null, .null, .null, .null, .null, .null]) :: []) rfl ?_
  refine x_aload_n C dX11_init_0 rfl 0 rfl rfl ?_
  refine x_oinit C w_27 w_28 w_29 dX11_init_1 (Nat.le_of_ble_eq_true rfl) (Nat.le_of_ble_eq_true rfl) rfl ?_
  refine x_aload_n C dX11_init_4 rfl 0 rfl rfl ?_
  refine x_new C (ci := 7) (fs := [.null, .int 0, .int 0, .int 0, .int 0]) rfl in_X8 tyX8 tyX8_ok w_30 w_31 w_2 (dv_X8) (Nat.le_of_ble_eq_true rfl) (Nat.le_of_ble_eq_true rfl) dX11_init_5 rfl (fun q1 => ?_)
  refine x_wide (k := 1) (n := 5) (Nat.le_refl _) (Nat.le_refl _) ?_
  refine x_dup C dX11_init_8 rfl rfl ?_
  refine x_nn C (As := []) (rest := [.ref q1, .ref h]) (W0 := (ob h 10 [.null, .null, .null, .null, .null, .int 0, .null, .null, .null, .null, .null, .null, .null, .null, .null, .null, .null, .null, .null]) :: []) (wc := [ob q1 7 [.null, .int 0, .int 0, .int 0, .int 0]]) (i_X8 E l q1) mf_X8_init n_32 rfl rfl rfl (Nat.le_of_ble_eq_true rfl) ⟨(Nat.le_of_ble_eq_true rfl), (Nat.le_of_ble_eq_true rfl)⟩ ⟨(Nat.le_of_ble_eq_true rfl), (Nat.le_of_ble_eq_true rfl)⟩ dX11_init_9 rfl (fun w2 h3 => ?_)
  obtain ⟨q4, e5⟩ := h3
  refine x_ws (ws1 := (ob h 10 [.null, .null, .null, .null, .null, .int 0, .null, .null, .null, .null, .null, .null, .null, .null, .null, .null, .null, .null, .null]) :: ([] ++ VX8 E q1 q4)) (by rw [e5]; rfl) ?_
  refine x_wide (k := 2) (n := 265) (Nat.le_refl _) (Nat.le_refl _) ?_
  refine x_putF C (ci := 10) (k := 0) (ty := .object "EggTown$Tape") (ws1 := (ob h 10 [.ref q1, .null, .null, .null, .null, .int 0, .null, .null, .null, .null, .null, .null, .null, .null, .null, .null, .null, .null, .null]) :: ([] ++ VX8 E q1 q4)) hin 0 rfl rfl in_X11 tyX11 tyX11_ok nmX11 (by decide) w_385 rfl rfl rfl rfl rfl (Nat.le_of_ble_eq_true rfl) rfl dX11_init_12 rfl ?_
  refine x_aload_n C dX11_init_15 rfl 0 rfl rfl ?_
  refine x_new C (ci := 7) (fs := [.null, .int 0, .int 0, .int 0, .int 0]) rfl in_X8 tyX8 tyX8_ok w_30 w_31 w_2 (dv_X8) (Nat.le_of_ble_eq_true rfl) (Nat.le_of_ble_eq_true rfl) dX11_init_16 rfl (fun q6 => ?_)
  refine x_wide (k := 3) (n := 270) (Nat.le_refl _) (Nat.le_refl _) ?_
  refine x_dup C dX11_init_19 rfl rfl ?_
  refine x_nn C (As := []) (rest := [.ref q6, .ref h]) (W0 := (ob h 10 [.ref q1, .null, .null, .null, .null, .int 0, .null, .null, .null, .null, .null, .null, .null, .null, .null, .null, .null, .null, .null]) :: ([] ++ VX8 E q1 q4)) (wc := [ob q6 7 [.null, .int 0, .int 0, .int 0, .int 0]]) (i_X8 E l q6) mf_X8_init n_32 rfl rfl rfl (Nat.le_of_ble_eq_true rfl) ⟨(Nat.le_of_ble_eq_true rfl), (Nat.le_of_ble_eq_true rfl)⟩ ⟨(Nat.le_of_ble_eq_true rfl), (Nat.le_of_ble_eq_true rfl)⟩ dX11_init_20 rfl (fun w7 h8 => ?_)
  obtain ⟨q9, e10⟩ := h8
  refine x_ws (ws1 := (ob h 10 [.ref q1, .null, .null, .null, .null, .int 0, .null, .null, .null, .null, .null, .null, .null, .null, .null, .null, .null, .null, .null]) :: (([] ++ VX8 E q1 q4) ++ VX8 E q6 q9)) (by rw [e10]; rfl) ?_
  refine x_wide (k := 4) (n := 530) (Nat.le_refl _) (Nat.le_refl _) ?_
  refine x_putF C (ci := 10) (k := 1) (ty := .object "EggTown$Tape") (ws1 := (ob h 10 [.ref q1, .ref q6, .null, .null, .null, .int 0, .null, .null, .null, .null, .null, .null, .null, .null, .null, .null, .null, .null, .null]) :: (([] ++ VX8 E q1 q4) ++ VX8 E q6 q9)) hin 0 rfl rfl in_X11 tyX11 tyX11_ok nmX11 (by decide) w_386 rfl rfl rfl rfl rfl (Nat.le_of_ble_eq_true rfl) rfl dX11_init_23 rfl ?_
  refine x_aload_n C dX11_init_26 rfl 0 rfl rfl ?_
  refine x_new C (ci := 8) (fs := [.int 0, .int 0, .null, .null, .null, .null, .int 0, .int 0, .int 0, .int 0]) rfl in_X9 tyX9 tyX9_ok w_56 w_57 w_3 (dv_X9) (Nat.le_of_ble_eq_true rfl) (Nat.le_of_ble_eq_true rfl) dX11_init_27 rfl (fun q11 => ?_)
  refine x_wide (k := 5) (n := 540) (Nat.le_refl _) (Nat.le_refl _) ?_
  refine x_dup C dX11_init_30 rfl rfl ?_
  refine x_nn C (As := []) (rest := [.ref q11, .ref h]) (W0 := (ob h 10 [.ref q1, .ref q6, .null, .null, .null, .int 0, .null, .null, .null, .null, .null, .null, .null, .null, .null, .null, .null, .null, .null]) :: (([] ++ VX8 E q1 q4) ++ VX8 E q6 q9)) (wc := [ob q11 8 [.int 0, .int 0, .null, .null, .null, .null, .int 0, .int 0, .int 0, .int 0]]) (i_X9 E l q11) mf_X9_init n_58 rfl rfl rfl (Nat.le_of_ble_eq_true rfl) ⟨(Nat.le_of_ble_eq_true rfl), (Nat.le_of_ble_eq_true rfl)⟩ ⟨(Nat.le_of_ble_eq_true rfl), (Nat.le_of_ble_eq_true rfl)⟩ dX11_init_31 rfl (fun w12 h13 => ?_)
  obtain ⟨q14, q15, q16, q17, q18, q19, q20, q21, q22, q23, q24, q25, q26, q27, q28, q29, q30, q31, q32, q33, q34, e35⟩ := h13
  refine x_ws (ws1 := (ob h 10 [.ref q1, .ref q6, .null, .null, .null, .int 0, .null, .null, .null, .null, .null, .null, .null, .null, .null, .null, .null, .null, .null]) :: ((([] ++ VX8 E q1 q4) ++ VX8 E q6 q9) ++ VX9 E q11 q14 q15 q16 q17 q18 q19 q20 q21 q22 q23 q24 q25 q26 q27 q28 q29 q30 q31 q32 q33 q34)) (by rw [e35]; rfl) ?_
  refine x_wide (k := 26) (n := 937) (Nat.le_refl _) (Nat.le_refl _) ?_
  refine x_putF C (ci := 10) (k := 2) (ty := .object "EggTown$Town") (ws1 := (ob h 10 [.ref q1, .ref q6, .ref q11, .null, .null, .int 0, .null, .null, .null, .null, .null, .null, .null, .null, .null, .null, .null, .null, .null]) :: ((([] ++ VX8 E q1 q4) ++ VX8 E q6 q9) ++ VX9 E q11 q14 q15 q16 q17 q18 q19 q20 q21 q22 q23 q24 q25 q26 q27 q28 q29 q30 q31 q32 q33 q34)) hin 0 rfl rfl in_X11 tyX11 tyX11_ok nmX11 (by decide) w_387 rfl rfl rfl rfl rfl (Nat.le_of_ble_eq_true rfl) rfl dX11_init_34 rfl ?_
  refine x_aload_n C dX11_init_37 rfl 0 rfl rfl ?_
  refine x_new C (ci := 8) (fs := [.int 0, .int 0, .null, .null, .null, .null, .int 0, .int 0, .int 0, .int 0]) rfl in_X9 tyX9 tyX9_ok w_56 w_57 w_3 (dv_X9) (Nat.le_of_ble_eq_true rfl) (Nat.le_of_ble_eq_true rfl) dX11_init_38 rfl (fun q36 => ?_)
  refine x_wide (k := 27) (n := 947) (Nat.le_refl _) (Nat.le_refl _) ?_
  refine x_dup C dX11_init_41 rfl rfl ?_
  refine x_nn C (As := []) (rest := [.ref q36, .ref h]) (W0 := (ob h 10 [.ref q1, .ref q6, .ref q11, .null, .null, .int 0, .null, .null, .null, .null, .null, .null, .null, .null, .null, .null, .null, .null, .null]) :: ((([] ++ VX8 E q1 q4) ++ VX8 E q6 q9) ++ VX9 E q11 q14 q15 q16 q17 q18 q19 q20 q21 q22 q23 q24 q25 q26 q27 q28 q29 q30 q31 q32 q33 q34)) (wc := [ob q36 8 [.int 0, .int 0, .null, .null, .null, .null, .int 0, .int 0, .int 0, .int 0]]) (i_X9 E l q36) mf_X9_init n_58 rfl rfl rfl (Nat.le_of_ble_eq_true rfl) ⟨(Nat.le_of_ble_eq_true rfl), (Nat.le_of_ble_eq_true rfl)⟩ ⟨(Nat.le_of_ble_eq_true rfl), (Nat.le_of_ble_eq_true rfl)⟩ dX11_init_42 rfl (fun w37 h38 => ?_)
  obtain ⟨q39, q40, q41, q42, q43, q44, q45, q46, q47, q48, q49, q50, q51, q52, q53, q54, q55, q56, q57, q58, q59, e60⟩ := h38
  refine x_ws (ws1 := (ob h 10 [.ref q1, .ref q6, .ref q11, .null, .null, .int 0, .null, .null, .null, .null, .null, .null, .null, .null, .null, .null, .null, .null, .null]) :: (((([] ++ VX8 E q1 q4) ++ VX8 E q6 q9) ++ VX9 E q11 q14 q15 q16 q17 q18 q19 q20 q21 q22 q23 q24 q25 q26 q27 q28 q29 q30 q31 q32 q33 q34) ++ VX9 E q36 q39 q40 q41 q42 q43 q44 q45 q46 q47 q48 q49 q50 q51 q52 q53 q54 q55 q56 q57 q58 q59)) (by rw [e60]; rfl) ?_
  refine x_wide (k := 48) (n := 1344) (Nat.le_refl _) (Nat.le_refl _) ?_
  refine x_putF C (ci := 10) (k := 3) (ty := .object "EggTown$Town") (ws1 := (ob h 10 [.ref q1, .ref q6, .ref q11, .ref q36, .null, .int 0, .null, .null, .null, .null, .null, .null, .null, .null, .null, .null, .null, .null, .null]) :: (((([] ++ VX8 E q1 q4) ++ VX8 E q6 q9) ++ VX9 E q11 q14 q15 q16 q17 q18 q19 q20 q21 q22 q23 q24 q25 q26 q27 q28 q29 q30 q31 q32 q33 q34) ++ VX9 E q36 q39 q40 q41 q42 q43 q44 q45 q46 q47 q48 q49 q50 q51 q52 q53 q54 q55 q56 q57 q58 q59)) hin 0 rfl rfl in_X11 tyX11 tyX11_ok nmX11 (by decide) w_388 rfl rfl rfl rfl rfl (Nat.le_of_ble_eq_true rfl) rfl dX11_init_45 rfl ?_
  refine x_aload_n C dX11_init_48 rfl 0 rfl rfl ?_
  refine x_new C (ci := 8) (fs := [.int 0, .int 0, .null, .null, .null, .null, .int 0, .int 0, .int 0, .int 0]) rfl in_X9 tyX9 tyX9_ok w_56 w_57 w_3 (dv_X9) (Nat.le_of_ble_eq_true rfl) (Nat.le_of_ble_eq_true rfl) dX11_init_49 rfl (fun q61 => ?_)
  refine x_wide (k := 49) (n := 1354) (Nat.le_refl _) (Nat.le_refl _) ?_
  refine x_dup C dX11_init_52 rfl rfl ?_
  refine x_nn C (As := []) (rest := [.ref q61, .ref h]) (W0 := (ob h 10 [.ref q1, .ref q6, .ref q11, .ref q36, .null, .int 0, .null, .null, .null, .null, .null, .null, .null, .null, .null, .null, .null, .null, .null]) :: (((([] ++ VX8 E q1 q4) ++ VX8 E q6 q9) ++ VX9 E q11 q14 q15 q16 q17 q18 q19 q20 q21 q22 q23 q24 q25 q26 q27 q28 q29 q30 q31 q32 q33 q34) ++ VX9 E q36 q39 q40 q41 q42 q43 q44 q45 q46 q47 q48 q49 q50 q51 q52 q53 q54 q55 q56 q57 q58 q59)) (wc := [ob q61 8 [.int 0, .int 0, .null, .null, .null, .null, .int 0, .int 0, .int 0, .int 0]]) (i_X9 E l q61) mf_X9_init n_58 rfl rfl rfl (Nat.le_of_ble_eq_true rfl) ⟨(Nat.le_of_ble_eq_true rfl), (Nat.le_of_ble_eq_true rfl)⟩ ⟨(Nat.le_of_ble_eq_true rfl), (Nat.le_of_ble_eq_true rfl)⟩ dX11_init_53 rfl (fun w62 h63 => ?_)
  obtain ⟨q64, q65, q66, q67, q68, q69, q70, q71, q72, q73, q74, q75, q76, q77, q78, q79, q80, q81, q82, q83, q84, e85⟩ := h63
  refine x_ws (ws1 := (ob h 10 [.ref q1, .ref q6, .ref q11, .ref q36, .null, .int 0, .null, .null, .null, .null, .null, .null, .null, .null, .null, .null, .null, .null, .null]) :: ((((([] ++ VX8 E q1 q4) ++ VX8 E q6 q9) ++ VX9 E q11 q14 q15 q16 q17 q18 q19 q20 q21 q22 q23 q24 q25 q26 q27 q28 q29 q30 q31 q32 q33 q34) ++ VX9 E q36 q39 q40 q41 q42 q43 q44 q45 q46 q47 q48 q49 q50 q51 q52 q53 q54 q55 q56 q57 q58 q59) ++ VX9 E q61 q64 q65 q66 q67 q68 q69 q70 q71 q72 q73 q74 q75 q76 q77 q78 q79 q80 q81 q82 q83 q84)) (by rw [e85]; rfl) ?_
  refine x_wide (k := 70) (n := 1751) (Nat.le_refl _) (Nat.le_refl _) ?_
  refine x_putF C (ci := 10) (k := 4) (ty := .object "EggTown$Town") (ws1 := (ob h 10 [.ref q1, .ref q6, .ref q11, .ref q36, .ref q61, .int 0, .null, .null, .null, .null, .null, .null, .null, .null, .null, .null, .null, .null, .null]) :: ((((([] ++ VX8 E q1 q4) ++ VX8 E q6 q9) ++ VX9 E q11 q14 q15 q16 q17 q18 q19 q20 q21 q22 q23 q24 q25 q26 q27 q28 q29 q30 q31 q32 q33 q34) ++ VX9 E q36 q39 q40 q41 q42 q43 q44 q45 q46 q47 q48 q49 q50 q51 q52 q53 q54 q55 q56 q57 q58 q59) ++ VX9 E q61 q64 q65 q66 q67 q68 q69 q70 q71 q72 q73 q74 q75 q76 q77 q78 q79 q80 q81 q82 q83 q84)) hin 0 rfl rfl in_X11 tyX11 tyX11_ok nmX11 (by decide) w_389 rfl rfl rfl rfl rfl (Nat.le_of_ble_eq_true rfl) rfl dX11_init_56 rfl ?_
  refine x_aload_n C dX11_init_59 rfl 0 rfl rfl ?_
  refine x_iconst C (v := 0) dX11_init_60 (by decide) rfl ?_
  refine x_put C (ci := 10) (k := 5) (ty := .boolean) (ws1 := (ob h 10 [.ref q1, .ref q6, .ref q11, .ref q36, .ref q61, .int 0, .null, .null, .null, .null, .null, .null, .null, .null, .null, .null, .null, .null, .null]) :: ((((([] ++ VX8 E q1 q4) ++ VX8 E q6 q9) ++ VX9 E q11 q14 q15 q16 q17 q18 q19 q20 q21 q22 q23 q24 q25 q26 q27 q28 q29 q30 q31 q32 q33 q34) ++ VX9 E q36 q39 q40 q41 q42 q43 q44 q45 q46 q47 q48 q49 q50 q51 q52 q53 q54 q55 q56 q57 q58 q59) ++ VX9 E q61 q64 q65 q66 q67 q68 q69 q70 q71 q72 q73 q74 q75 q76 q77 q78 q79 q80 q81 q82 q83 q84)) 0 rfl rfl in_X11 tyX11 tyX11_ok nmX11 (by decide) w_390 rfl rfl rfl rfl (Nat.le_of_ble_eq_true rfl) rfl dX11_init_61 rfl ?_
  refine x_aload_n C dX11_init_64 rfl 0 rfl rfl ?_
  refine x_new C (ci := 3) (fs := [.int 0, .null, .null, .null, .null, .int 0, .null, .null, .null, .int 0]) rfl in_X3 tyX3 tyX3_ok w_244 w_245 w_8 (dv_X3) (Nat.le_of_ble_eq_true rfl) (Nat.le_of_ble_eq_true rfl) dX11_init_65 rfl (fun q86 => ?_)
  refine x_wide (k := 71) (n := 1761) (Nat.le_refl _) (Nat.le_refl _) ?_
  refine x_dup C dX11_init_68 rfl rfl ?_
  refine x_nn C (As := []) (rest := [.ref q86, .ref h]) (W0 := (ob h 10 [.ref q1, .ref q6, .ref q11, .ref q36, .ref q61, .int 0, .null, .null, .null, .null, .null, .null, .null, .null, .null, .null, .null, .null, .null]) :: ((((([] ++ VX8 E q1 q4) ++ VX8 E q6 q9) ++ VX9 E q11 q14 q15 q16 q17 q18 q19 q20 q21 q22 q23 q24 q25 q26 q27 q28 q29 q30 q31 q32 q33 q34) ++ VX9 E q36 q39 q40 q41 q42 q43 q44 q45 q46 q47 q48 q49 q50 q51 q52 q53 q54 q55 q56 q57 q58 q59) ++ VX9 E q61 q64 q65 q66 q67 q68 q69 q70 q71 q72 q73 q74 q75 q76 q77 q78 q79 q80 q81 q82 q83 q84)) (wc := [ob q86 3 [.int 0, .null, .null, .null, .null, .int 0, .null, .null, .null, .int 0]]) (i_X3 E l q86) mf_X3_init n_246 rfl rfl rfl (Nat.le_of_ble_eq_true rfl) ⟨(Nat.le_of_ble_eq_true rfl), (Nat.le_of_ble_eq_true rfl)⟩ ⟨(Nat.le_of_ble_eq_true rfl), (Nat.le_of_ble_eq_true rfl)⟩ dX11_init_69 rfl (fun w87 h88 => ?_)
  obtain ⟨q89, q90, q91, q92, q93, q94, q95, e96⟩ := h88
  refine x_ws (ws1 := (ob h 10 [.ref q1, .ref q6, .ref q11, .ref q36, .ref q61, .int 0, .null, .null, .null, .null, .null, .null, .null, .null, .null, .null, .null, .null, .null]) :: (((((([] ++ VX8 E q1 q4) ++ VX8 E q6 q9) ++ VX9 E q11 q14 q15 q16 q17 q18 q19 q20 q21 q22 q23 q24 q25 q26 q27 q28 q29 q30 q31 q32 q33 q34) ++ VX9 E q36 q39 q40 q41 q42 q43 q44 q45 q46 q47 q48 q49 q50 q51 q52 q53 q54 q55 q56 q57 q58 q59) ++ VX9 E q61 q64 q65 q66 q67 q68 q69 q70 q71 q72 q73 q74 q75 q76 q77 q78 q79 q80 q81 q82 q83 q84) ++ VX3 E q86 q89 q90 q91 q92 q93 q94 q95)) (by rw [e96]; rfl) ?_
  refine x_wide (k := 78) (n := 2140) (Nat.le_refl _) (Nat.le_refl _) ?_
  refine x_put C (ci := 10) (k := 6) (ty := .object "EggTown$Law") (ws1 := (ob h 10 [.ref q1, .ref q6, .ref q11, .ref q36, .ref q61, .int 0, .ref q86, .null, .null, .null, .null, .null, .null, .null, .null, .null, .null, .null, .null]) :: (((((([] ++ VX8 E q1 q4) ++ VX8 E q6 q9) ++ VX9 E q11 q14 q15 q16 q17 q18 q19 q20 q21 q22 q23 q24 q25 q26 q27 q28 q29 q30 q31 q32 q33 q34) ++ VX9 E q36 q39 q40 q41 q42 q43 q44 q45 q46 q47 q48 q49 q50 q51 q52 q53 q54 q55 q56 q57 q58 q59) ++ VX9 E q61 q64 q65 q66 q67 q68 q69 q70 q71 q72 q73 q74 q75 q76 q77 q78 q79 q80 q81 q82 q83 q84) ++ VX3 E q86 q89 q90 q91 q92 q93 q94 q95)) 0 rfl rfl in_X11 tyX11 tyX11_ok nmX11 (by decide) w_391 rfl rfl rfl rfl (Nat.le_of_ble_eq_true rfl) rfl dX11_init_72 rfl ?_
  refine x_aload_n C dX11_init_75 rfl 0 rfl rfl ?_
  refine x_new C (ci := 3) (fs := [.int 0, .null, .null, .null, .null, .int 0, .null, .null, .null, .int 0]) rfl in_X3 tyX3 tyX3_ok w_244 w_245 w_8 (dv_X3) (Nat.le_of_ble_eq_true rfl) (Nat.le_of_ble_eq_true rfl) dX11_init_76 rfl (fun q97 => ?_)
  refine x_wide (k := 79) (n := 2150) (Nat.le_refl _) (Nat.le_refl _) ?_
  refine x_dup C dX11_init_79 rfl rfl ?_
  refine x_nn C (As := []) (rest := [.ref q97, .ref h]) (W0 := (ob h 10 [.ref q1, .ref q6, .ref q11, .ref q36, .ref q61, .int 0, .ref q86, .null, .null, .null, .null, .null, .null, .null, .null, .null, .null, .null, .null]) :: (((((([] ++ VX8 E q1 q4) ++ VX8 E q6 q9) ++ VX9 E q11 q14 q15 q16 q17 q18 q19 q20 q21 q22 q23 q24 q25 q26 q27 q28 q29 q30 q31 q32 q33 q34) ++ VX9 E q36 q39 q40 q41 q42 q43 q44 q45 q46 q47 q48 q49 q50 q51 q52 q53 q54 q55 q56 q57 q58 q59) ++ VX9 E q61 q64 q65 q66 q67 q68 q69 q70 q71 q72 q73 q74 q75 q76 q77 q78 q79 q80 q81 q82 q83 q84) ++ VX3 E q86 q89 q90 q91 q92 q93 q94 q95)) (wc := [ob q97 3 [.int 0, .null, .null, .null, .null, .int 0, .null, .null, .null, .int 0]]) (i_X3 E l q97) mf_X3_init n_246 rfl rfl rfl (Nat.le_of_ble_eq_true rfl) ⟨(Nat.le_of_ble_eq_true rfl), (Nat.le_of_ble_eq_true rfl)⟩ ⟨(Nat.le_of_ble_eq_true rfl), (Nat.le_of_ble_eq_true rfl)⟩ dX11_init_80 rfl (fun w98 h99 => ?_)
  obtain ⟨q100, q101, q102, q103, q104, q105, q106, e107⟩ := h99
  refine x_ws (ws1 := (ob h 10 [.ref q1, .ref q6, .ref q11, .ref q36, .ref q61, .int 0, .ref q86, .null, .null, .null, .null, .null, .null, .null, .null, .null, .null, .null, .null]) :: ((((((([] ++ VX8 E q1 q4) ++ VX8 E q6 q9) ++ VX9 E q11 q14 q15 q16 q17 q18 q19 q20 q21 q22 q23 q24 q25 q26 q27 q28 q29 q30 q31 q32 q33 q34) ++ VX9 E q36 q39 q40 q41 q42 q43 q44 q45 q46 q47 q48 q49 q50 q51 q52 q53 q54 q55 q56 q57 q58 q59) ++ VX9 E q61 q64 q65 q66 q67 q68 q69 q70 q71 q72 q73 q74 q75 q76 q77 q78 q79 q80 q81 q82 q83 q84) ++ VX3 E q86 q89 q90 q91 q92 q93 q94 q95) ++ VX3 E q97 q100 q101 q102 q103 q104 q105 q106)) (by rw [e107]; rfl) ?_
  refine x_wide (k := 86) (n := 2529) (Nat.le_refl _) (Nat.le_refl _) ?_
  refine x_put C (ci := 10) (k := 7) (ty := .object "EggTown$Law") (ws1 := (ob h 10 [.ref q1, .ref q6, .ref q11, .ref q36, .ref q61, .int 0, .ref q86, .ref q97, .null, .null, .null, .null, .null, .null, .null, .null, .null, .null, .null]) :: ((((((([] ++ VX8 E q1 q4) ++ VX8 E q6 q9) ++ VX9 E q11 q14 q15 q16 q17 q18 q19 q20 q21 q22 q23 q24 q25 q26 q27 q28 q29 q30 q31 q32 q33 q34) ++ VX9 E q36 q39 q40 q41 q42 q43 q44 q45 q46 q47 q48 q49 q50 q51 q52 q53 q54 q55 q56 q57 q58 q59) ++ VX9 E q61 q64 q65 q66 q67 q68 q69 q70 q71 q72 q73 q74 q75 q76 q77 q78 q79 q80 q81 q82 q83 q84) ++ VX3 E q86 q89 q90 q91 q92 q93 q94 q95) ++ VX3 E q97 q100 q101 q102 q103 q104 q105 q106)) 0 rfl rfl in_X11 tyX11 tyX11_ok nmX11 (by decide) w_392 rfl rfl rfl rfl (Nat.le_of_ble_eq_true rfl) rfl dX11_init_83 rfl ?_
  refine x_aload_n C dX11_init_86 rfl 0 rfl rfl ?_
  refine x_new C (ci := 0) (fs := [.int 0, .null, .null, .null, .null, .int 0]) rfl in_X0 tyX0 tyX0_ok w_288 w_289 w_9 (dv_X0) (Nat.le_of_ble_eq_true rfl) (Nat.le_of_ble_eq_true rfl) dX11_init_87 rfl (fun q108 => ?_)
  refine x_wide (k := 87) (n := 2535) (Nat.le_refl _) (Nat.le_refl _) ?_
  refine x_dup C dX11_init_90 rfl rfl ?_
  refine x_nn C (As := []) (rest := [.ref q108, .ref h]) (W0 := (ob h 10 [.ref q1, .ref q6, .ref q11, .ref q36, .ref q61, .int 0, .ref q86, .ref q97, .null, .null, .null, .null, .null, .null, .null, .null, .null, .null, .null]) :: ((((((([] ++ VX8 E q1 q4) ++ VX8 E q6 q9) ++ VX9 E q11 q14 q15 q16 q17 q18 q19 q20 q21 q22 q23 q24 q25 q26 q27 q28 q29 q30 q31 q32 q33 q34) ++ VX9 E q36 q39 q40 q41 q42 q43 q44 q45 q46 q47 q48 q49 q50 q51 q52 q53 q54 q55 q56 q57 q58 q59) ++ VX9 E q61 q64 q65 q66 q67 q68 q69 q70 q71 q72 q73 q74 q75 q76 q77 q78 q79 q80 q81 q82 q83 q84) ++ VX3 E q86 q89 q90 q91 q92 q93 q94 q95) ++ VX3 E q97 q100 q101 q102 q103 q104 q105 q106)) (wc := [ob q108 0 [.int 0, .null, .null, .null, .null, .int 0]]) (i_X0 E l q108) mf_X0_init n_290 rfl rfl rfl (Nat.le_of_ble_eq_true rfl) ⟨(Nat.le_of_ble_eq_true rfl), (Nat.le_of_ble_eq_true rfl)⟩ ⟨(Nat.le_of_ble_eq_true rfl), (Nat.le_of_ble_eq_true rfl)⟩ dX11_init_91 rfl (fun w109 h110 => ?_)
  obtain ⟨q111, q112, q113, q114, e115⟩ := h110
  refine x_ws (ws1 := (ob h 10 [.ref q1, .ref q6, .ref q11, .ref q36, .ref q61, .int 0, .ref q86, .ref q97, .null, .null, .null, .null, .null, .null, .null, .null, .null, .null, .null]) :: (((((((([] ++ VX8 E q1 q4) ++ VX8 E q6 q9) ++ VX9 E q11 q14 q15 q16 q17 q18 q19 q20 q21 q22 q23 q24 q25 q26 q27 q28 q29 q30 q31 q32 q33 q34) ++ VX9 E q36 q39 q40 q41 q42 q43 q44 q45 q46 q47 q48 q49 q50 q51 q52 q53 q54 q55 q56 q57 q58 q59) ++ VX9 E q61 q64 q65 q66 q67 q68 q69 q70 q71 q72 q73 q74 q75 q76 q77 q78 q79 q80 q81 q82 q83 q84) ++ VX3 E q86 q89 q90 q91 q92 q93 q94 q95) ++ VX3 E q97 q100 q101 q102 q103 q104 q105 q106) ++ VX0 E q108 q111 q112 q113 q114)) (by rw [e115]; rfl) ?_
  refine x_wide (k := 91) (n := 2748) (Nat.le_refl _) (Nat.le_refl _) ?_
  refine x_putF C (ci := 10) (k := 8) (ty := .object "EggTown$Acts") (ws1 := (ob h 10 [.ref q1, .ref q6, .ref q11, .ref q36, .ref q61, .int 0, .ref q86, .ref q97, .ref q108, .null, .null, .null, .null, .null, .null, .null, .null, .null, .null]) :: (((((((([] ++ VX8 E q1 q4) ++ VX8 E q6 q9) ++ VX9 E q11 q14 q15 q16 q17 q18 q19 q20 q21 q22 q23 q24 q25 q26 q27 q28 q29 q30 q31 q32 q33 q34) ++ VX9 E q36 q39 q40 q41 q42 q43 q44 q45 q46 q47 q48 q49 q50 q51 q52 q53 q54 q55 q56 q57 q58 q59) ++ VX9 E q61 q64 q65 q66 q67 q68 q69 q70 q71 q72 q73 q74 q75 q76 q77 q78 q79 q80 q81 q82 q83 q84) ++ VX3 E q86 q89 q90 q91 q92 q93 q94 q95) ++ VX3 E q97 q100 q101 q102 q103 q104 q105 q106) ++ VX0 E q108 q111 q112 q113 q114)) hin 0 rfl rfl in_X11 tyX11 tyX11_ok nmX11 (by decide) w_393 rfl rfl rfl rfl rfl (Nat.le_of_ble_eq_true rfl) rfl dX11_init_94 rfl ?_
  refine x_aload_n C dX11_init_97 rfl 0 rfl rfl ?_
  refine x_new C (ci := 5) (fs := [.null, .null, .int 0, .int 0, .null, .null, .null, .null, .null, .null, .null, .null, .int 0]) rfl in_X6 tyX6 tyX6_ok w_314 w_315 w_10 (dv_X6) (Nat.le_of_ble_eq_true rfl) (Nat.le_of_ble_eq_true rfl) dX11_init_98 rfl (fun q116 => ?_)
  refine x_wide (k := 92) (n := 2761) (Nat.le_refl _) (Nat.le_refl _) ?_
  refine x_dup C dX11_init_101 rfl rfl ?_
  refine x_nn C (As := []) (rest := [.ref q116, .ref h]) (W0 := (ob h 10 [.ref q1, .ref q6, .ref q11, .ref q36, .ref q61, .int 0, .ref q86, .ref q97, .ref q108, .null, .null, .null, .null, .null, .null, .null, .null, .null, .null]) :: (((((((([] ++ VX8 E q1 q4) ++ VX8 E q6 q9) ++ VX9 E q11 q14 q15 q16 q17 q18 q19 q20 q21 q22 q23 q24 q25 q26 q27 q28 q29 q30 q31 q32 q33 q34) ++ VX9 E q36 q39 q40 q41 q42 q43 q44 q45 q46 q47 q48 q49 q50 q51 q52 q53 q54 q55 q56 q57 q58 q59) ++ VX9 E q61 q64 q65 q66 q67 q68 q69 q70 q71 q72 q73 q74 q75 q76 q77 q78 q79 q80 q81 q82 q83 q84) ++ VX3 E q86 q89 q90 q91 q92 q93 q94 q95) ++ VX3 E q97 q100 q101 q102 q103 q104 q105 q106) ++ VX0 E q108 q111 q112 q113 q114)) (wc := [ob q116 5 [.null, .null, .int 0, .int 0, .null, .null, .null, .null, .null, .null, .null, .null, .int 0]]) (i_X6 E l q116) mf_X6_init n_316 rfl rfl rfl (Nat.le_of_ble_eq_true rfl) ⟨(Nat.le_of_ble_eq_true rfl), (Nat.le_of_ble_eq_true rfl)⟩ ⟨(Nat.le_of_ble_eq_true rfl), (Nat.le_of_ble_eq_true rfl)⟩ dX11_init_102 rfl (fun w117 h118 => ?_)
  obtain ⟨q119, q120, q121, q122, q123, q124, q125, q126, q127, q128, e129⟩ := h118
  refine x_ws (ws1 := (ob h 10 [.ref q1, .ref q6, .ref q11, .ref q36, .ref q61, .int 0, .ref q86, .ref q97, .ref q108, .null, .null, .null, .null, .null, .null, .null, .null, .null, .null]) :: ((((((((([] ++ VX8 E q1 q4) ++ VX8 E q6 q9) ++ VX9 E q11 q14 q15 q16 q17 q18 q19 q20 q21 q22 q23 q24 q25 q26 q27 q28 q29 q30 q31 q32 q33 q34) ++ VX9 E q36 q39 q40 q41 q42 q43 q44 q45 q46 q47 q48 q49 q50 q51 q52 q53 q54 q55 q56 q57 q58 q59) ++ VX9 E q61 q64 q65 q66 q67 q68 q69 q70 q71 q72 q73 q74 q75 q76 q77 q78 q79 q80 q81 q82 q83 q84) ++ VX3 E q86 q89 q90 q91 q92 q93 q94 q95) ++ VX3 E q97 q100 q101 q102 q103 q104 q105 q106) ++ VX0 E q108 q111 q112 q113 q114) ++ VX6 E q116 q119 q120 q121 q122 q123 q124 q125 q126 q127 q128)) (by rw [e129]; rfl) ?_
  refine x_wide (k := 102) (n := 3868) (Nat.le_refl _) (Nat.le_refl _) ?_
  refine x_putF C (ci := 10) (k := 9) (ty := .object "EggTown$Plan") (ws1 := (ob h 10 [.ref q1, .ref q6, .ref q11, .ref q36, .ref q61, .int 0, .ref q86, .ref q97, .ref q108, .ref q116, .null, .null, .null, .null, .null, .null, .null, .null, .null]) :: ((((((((([] ++ VX8 E q1 q4) ++ VX8 E q6 q9) ++ VX9 E q11 q14 q15 q16 q17 q18 q19 q20 q21 q22 q23 q24 q25 q26 q27 q28 q29 q30 q31 q32 q33 q34) ++ VX9 E q36 q39 q40 q41 q42 q43 q44 q45 q46 q47 q48 q49 q50 q51 q52 q53 q54 q55 q56 q57 q58 q59) ++ VX9 E q61 q64 q65 q66 q67 q68 q69 q70 q71 q72 q73 q74 q75 q76 q77 q78 q79 q80 q81 q82 q83 q84) ++ VX3 E q86 q89 q90 q91 q92 q93 q94 q95) ++ VX3 E q97 q100 q101 q102 q103 q104 q105 q106) ++ VX0 E q108 q111 q112 q113 q114) ++ VX6 E q116 q119 q120 q121 q122 q123 q124 q125 q126 q127 q128)) hin 0 rfl rfl in_X11 tyX11 tyX11_ok nmX11 (by decide) w_394 rfl rfl rfl rfl rfl (Nat.le_of_ble_eq_true rfl) rfl dX11_init_105 rfl ?_
  refine x_aload_n C dX11_init_108 rfl 0 rfl rfl ?_
  refine x_new C (ci := 6) (fs := [.int 0, .int 0, .int 0, .null, .int 0]) rfl in_X7 tyX7 tyX7_ok w_360 w_361 w_11 (dv_X7) (Nat.le_of_ble_eq_true rfl) (Nat.le_of_ble_eq_true rfl) dX11_init_109 rfl (fun q130 => ?_)
  refine x_wide (k := 103) (n := 3873) (Nat.le_refl _) (Nat.le_refl _) ?_
  refine x_dup C dX11_init_112 rfl rfl ?_
  refine x_nn C (As := []) (rest := [.ref q130, .ref h]) (W0 := (ob h 10 [.ref q1, .ref q6, .ref q11, .ref q36, .ref q61, .int 0, .ref q86, .ref q97, .ref q108, .ref q116, .null, .null, .null, .null, .null, .null, .null, .null, .null]) :: ((((((((([] ++ VX8 E q1 q4) ++ VX8 E q6 q9) ++ VX9 E q11 q14 q15 q16 q17 q18 q19 q20 q21 q22 q23 q24 q25 q26 q27 q28 q29 q30 q31 q32 q33 q34) ++ VX9 E q36 q39 q40 q41 q42 q43 q44 q45 q46 q47 q48 q49 q50 q51 q52 q53 q54 q55 q56 q57 q58 q59) ++ VX9 E q61 q64 q65 q66 q67 q68 q69 q70 q71 q72 q73 q74 q75 q76 q77 q78 q79 q80 q81 q82 q83 q84) ++ VX3 E q86 q89 q90 q91 q92 q93 q94 q95) ++ VX3 E q97 q100 q101 q102 q103 q104 q105 q106) ++ VX0 E q108 q111 q112 q113 q114) ++ VX6 E q116 q119 q120 q121 q122 q123 q124 q125 q126 q127 q128)) (wc := [ob q130 6 [.int 0, .int 0, .int 0, .null, .int 0]]) (i_X7 E l q130) mf_X7_init n_362 rfl rfl rfl (Nat.le_of_ble_eq_true rfl) ⟨(Nat.le_of_ble_eq_true rfl), (Nat.le_of_ble_eq_true rfl)⟩ ⟨(Nat.le_of_ble_eq_true rfl), (Nat.le_of_ble_eq_true rfl)⟩ dX11_init_113 rfl (fun w131 h132 => ?_)
  obtain ⟨q133, e134⟩ := h132
  refine x_ws (ws1 := (ob h 10 [.ref q1, .ref q6, .ref q11, .ref q36, .ref q61, .int 0, .ref q86, .ref q97, .ref q108, .ref q116, .null, .null, .null, .null, .null, .null, .null, .null, .null]) :: (((((((((([] ++ VX8 E q1 q4) ++ VX8 E q6 q9) ++ VX9 E q11 q14 q15 q16 q17 q18 q19 q20 q21 q22 q23 q24 q25 q26 q27 q28 q29 q30 q31 q32 q33 q34) ++ VX9 E q36 q39 q40 q41 q42 q43 q44 q45 q46 q47 q48 q49 q50 q51 q52 q53 q54 q55 q56 q57 q58 q59) ++ VX9 E q61 q64 q65 q66 q67 q68 q69 q70 q71 q72 q73 q74 q75 q76 q77 q78 q79 q80 q81 q82 q83 q84) ++ VX3 E q86 q89 q90 q91 q92 q93 q94 q95) ++ VX3 E q97 q100 q101 q102 q103 q104 q105 q106) ++ VX0 E q108 q111 q112 q113 q114) ++ VX6 E q116 q119 q120 q121 q122 q123 q124 q125 q126 q127 q128) ++ VX7 E q130 q133)) (by rw [e134]; rfl) ?_
  refine x_wide (k := 104) (n := 3885) (Nat.le_refl _) (Nat.le_refl _) ?_
  refine x_putF C (ci := 10) (k := 10) (ty := .object "EggTown$Sets") (ws1 := (ob h 10 [.ref q1, .ref q6, .ref q11, .ref q36, .ref q61, .int 0, .ref q86, .ref q97, .ref q108, .ref q116, .ref q130, .null, .null, .null, .null, .null, .null, .null, .null]) :: (((((((((([] ++ VX8 E q1 q4) ++ VX8 E q6 q9) ++ VX9 E q11 q14 q15 q16 q17 q18 q19 q20 q21 q22 q23 q24 q25 q26 q27 q28 q29 q30 q31 q32 q33 q34) ++ VX9 E q36 q39 q40 q41 q42 q43 q44 q45 q46 q47 q48 q49 q50 q51 q52 q53 q54 q55 q56 q57 q58 q59) ++ VX9 E q61 q64 q65 q66 q67 q68 q69 q70 q71 q72 q73 q74 q75 q76 q77 q78 q79 q80 q81 q82 q83 q84) ++ VX3 E q86 q89 q90 q91 q92 q93 q94 q95) ++ VX3 E q97 q100 q101 q102 q103 q104 q105 q106) ++ VX0 E q108 q111 q112 q113 q114) ++ VX6 E q116 q119 q120 q121 q122 q123 q124 q125 q126 q127 q128) ++ VX7 E q130 q133)) hin 0 rfl rfl in_X11 tyX11 tyX11_ok nmX11 (by decide) w_395 rfl rfl rfl rfl rfl (Nat.le_of_ble_eq_true rfl) rfl dX11_init_116 rfl ?_
  refine x_aload_n C dX11_init_119 rfl 0 rfl rfl ?_
  refine x_bipush C (v := 48) dX11_init_120 (by decide) rfl ?_
  refine x_newi C 48 w_55 (by decide) (by decide) (by decide) (Nat.le_of_ble_eq_true rfl) (Nat.le_of_ble_eq_true rfl) dX11_init_122 rfl (fun q135 => ?_)
  refine x_ws (ws1 := (ob h 10 [.ref q1, .ref q6, .ref q11, .ref q36, .ref q61, .int 0, .ref q86, .ref q97, .ref q108, .ref q116, .ref q130, .null, .null, .null, .null, .null, .null, .null, .null]) :: ((((((((((([] ++ VX8 E q1 q4) ++ VX8 E q6 q9) ++ VX9 E q11 q14 q15 q16 q17 q18 q19 q20 q21 q22 q23 q24 q25 q26 q27 q28 q29 q30 q31 q32 q33 q34) ++ VX9 E q36 q39 q40 q41 q42 q43 q44 q45 q46 q47 q48 q49 q50 q51 q52 q53 q54 q55 q56 q57 q58 q59) ++ VX9 E q61 q64 q65 q66 q67 q68 q69 q70 q71 q72 q73 q74 q75 q76 q77 q78 q79 q80 q81 q82 q83 q84) ++ VX3 E q86 q89 q90 q91 q92 q93 q94 q95) ++ VX3 E q97 q100 q101 q102 q103 q104 q105 q106) ++ VX0 E q108 q111 q112 q113 q114) ++ VX6 E q116 q119 q120 q121 q122 q123 q124 q125 q126 q127 q128) ++ VX7 E q130 q133) ++ [iA E q135 48 (fun _ => 0)])) rfl ?_
  refine x_wide (k := 105) (n := 3933) (Nat.le_refl _) (Nat.le_refl _) ?_
  refine x_putF C (ci := 10) (k := 11) (ty := .array .int) (ws1 := (ob h 10 [.ref q1, .ref q6, .ref q11, .ref q36, .ref q61, .int 0, .ref q86, .ref q97, .ref q108, .ref q116, .ref q130, .ref q135, .null, .null, .null, .null, .null, .null, .null]) :: ((((((((((([] ++ VX8 E q1 q4) ++ VX8 E q6 q9) ++ VX9 E q11 q14 q15 q16 q17 q18 q19 q20 q21 q22 q23 q24 q25 q26 q27 q28 q29 q30 q31 q32 q33 q34) ++ VX9 E q36 q39 q40 q41 q42 q43 q44 q45 q46 q47 q48 q49 q50 q51 q52 q53 q54 q55 q56 q57 q58 q59) ++ VX9 E q61 q64 q65 q66 q67 q68 q69 q70 q71 q72 q73 q74 q75 q76 q77 q78 q79 q80 q81 q82 q83 q84) ++ VX3 E q86 q89 q90 q91 q92 q93 q94 q95) ++ VX3 E q97 q100 q101 q102 q103 q104 q105 q106) ++ VX0 E q108 q111 q112 q113 q114) ++ VX6 E q116 q119 q120 q121 q122 q123 q124 q125 q126 q127 q128) ++ VX7 E q130 q133) ++ [iA E q135 48 (fun _ => 0)])) hin 0 rfl rfl in_X11 tyX11 tyX11_ok nmX11 (by decide) w_396 rfl rfl rfl rfl rfl (Nat.le_of_ble_eq_true rfl) rfl dX11_init_124 rfl ?_
  refine x_aload_n C dX11_init_127 rfl 0 rfl rfl ?_
  refine x_bipush C (v := 48) dX11_init_128 (by decide) rfl ?_
  refine x_newi C 48 w_55 (by decide) (by decide) (by decide) (Nat.le_of_ble_eq_true rfl) (Nat.le_of_ble_eq_true rfl) dX11_init_130 rfl (fun q136 => ?_)
  refine x_ws (ws1 := (ob h 10 [.ref q1, .ref q6, .ref q11, .ref q36, .ref q61, .int 0, .ref q86, .ref q97, .ref q108, .ref q116, .ref q130, .ref q135, .null, .null, .null, .null, .null, .null, .null]) :: (((((((((((([] ++ VX8 E q1 q4) ++ VX8 E q6 q9) ++ VX9 E q11 q14 q15 q16 q17 q18 q19 q20 q21 q22 q23 q24 q25 q26 q27 q28 q29 q30 q31 q32 q33 q34) ++ VX9 E q36 q39 q40 q41 q42 q43 q44 q45 q46 q47 q48 q49 q50 q51 q52 q53 q54 q55 q56 q57 q58 q59) ++ VX9 E q61 q64 q65 q66 q67 q68 q69 q70 q71 q72 q73 q74 q75 q76 q77 q78 q79 q80 q81 q82 q83 q84) ++ VX3 E q86 q89 q90 q91 q92 q93 q94 q95) ++ VX3 E q97 q100 q101 q102 q103 q104 q105 q106) ++ VX0 E q108 q111 q112 q113 q114) ++ VX6 E q116 q119 q120 q121 q122 q123 q124 q125 q126 q127 q128) ++ VX7 E q130 q133) ++ [iA E q135 48 (fun _ => 0)]) ++ [iA E q136 48 (fun _ => 0)])) rfl ?_
  refine x_wide (k := 106) (n := 3981) (Nat.le_refl _) (Nat.le_refl _) ?_
  refine x_putF C (ci := 10) (k := 12) (ty := .array .int) (ws1 := (ob h 10 [.ref q1, .ref q6, .ref q11, .ref q36, .ref q61, .int 0, .ref q86, .ref q97, .ref q108, .ref q116, .ref q130, .ref q135, .ref q136, .null, .null, .null, .null, .null, .null]) :: (((((((((((([] ++ VX8 E q1 q4) ++ VX8 E q6 q9) ++ VX9 E q11 q14 q15 q16 q17 q18 q19 q20 q21 q22 q23 q24 q25 q26 q27 q28 q29 q30 q31 q32 q33 q34) ++ VX9 E q36 q39 q40 q41 q42 q43 q44 q45 q46 q47 q48 q49 q50 q51 q52 q53 q54 q55 q56 q57 q58 q59) ++ VX9 E q61 q64 q65 q66 q67 q68 q69 q70 q71 q72 q73 q74 q75 q76 q77 q78 q79 q80 q81 q82 q83 q84) ++ VX3 E q86 q89 q90 q91 q92 q93 q94 q95) ++ VX3 E q97 q100 q101 q102 q103 q104 q105 q106) ++ VX0 E q108 q111 q112 q113 q114) ++ VX6 E q116 q119 q120 q121 q122 q123 q124 q125 q126 q127 q128) ++ VX7 E q130 q133) ++ [iA E q135 48 (fun _ => 0)]) ++ [iA E q136 48 (fun _ => 0)])) hin 0 rfl rfl in_X11 tyX11 tyX11_ok nmX11 (by decide) w_397 rfl rfl rfl rfl rfl (Nat.le_of_ble_eq_true rfl) rfl dX11_init_132 rfl ?_
  refine x_aload_n C dX11_init_135 rfl 0 rfl rfl ?_
  refine x_bipush C (v := 40) dX11_init_136 (by decide) rfl ?_
  refine x_newi C 40 w_55 (by decide) (by decide) (by decide) (Nat.le_of_ble_eq_true rfl) (Nat.le_of_ble_eq_true rfl) dX11_init_138 rfl (fun q137 => ?_)
  refine x_ws (ws1 := (ob h 10 [.ref q1, .ref q6, .ref q11, .ref q36, .ref q61, .int 0, .ref q86, .ref q97, .ref q108, .ref q116, .ref q130, .ref q135, .ref q136, .null, .null, .null, .null, .null, .null]) :: ((((((((((((([] ++ VX8 E q1 q4) ++ VX8 E q6 q9) ++ VX9 E q11 q14 q15 q16 q17 q18 q19 q20 q21 q22 q23 q24 q25 q26 q27 q28 q29 q30 q31 q32 q33 q34) ++ VX9 E q36 q39 q40 q41 q42 q43 q44 q45 q46 q47 q48 q49 q50 q51 q52 q53 q54 q55 q56 q57 q58 q59) ++ VX9 E q61 q64 q65 q66 q67 q68 q69 q70 q71 q72 q73 q74 q75 q76 q77 q78 q79 q80 q81 q82 q83 q84) ++ VX3 E q86 q89 q90 q91 q92 q93 q94 q95) ++ VX3 E q97 q100 q101 q102 q103 q104 q105 q106) ++ VX0 E q108 q111 q112 q113 q114) ++ VX6 E q116 q119 q120 q121 q122 q123 q124 q125 q126 q127 q128) ++ VX7 E q130 q133) ++ [iA E q135 48 (fun _ => 0)]) ++ [iA E q136 48 (fun _ => 0)]) ++ [iA E q137 40 (fun _ => 0)])) rfl ?_
  refine x_wide (k := 107) (n := 4021) (Nat.le_refl _) (Nat.le_refl _) ?_
  refine x_putF C (ci := 10) (k := 13) (ty := .array .int) (ws1 := (ob h 10 [.ref q1, .ref q6, .ref q11, .ref q36, .ref q61, .int 0, .ref q86, .ref q97, .ref q108, .ref q116, .ref q130, .ref q135, .ref q136, .ref q137, .null, .null, .null, .null, .null]) :: ((((((((((((([] ++ VX8 E q1 q4) ++ VX8 E q6 q9) ++ VX9 E q11 q14 q15 q16 q17 q18 q19 q20 q21 q22 q23 q24 q25 q26 q27 q28 q29 q30 q31 q32 q33 q34) ++ VX9 E q36 q39 q40 q41 q42 q43 q44 q45 q46 q47 q48 q49 q50 q51 q52 q53 q54 q55 q56 q57 q58 q59) ++ VX9 E q61 q64 q65 q66 q67 q68 q69 q70 q71 q72 q73 q74 q75 q76 q77 q78 q79 q80 q81 q82 q83 q84) ++ VX3 E q86 q89 q90 q91 q92 q93 q94 q95) ++ VX3 E q97 q100 q101 q102 q103 q104 q105 q106) ++ VX0 E q108 q111 q112 q113 q114) ++ VX6 E q116 q119 q120 q121 q122 q123 q124 q125 q126 q127 q128) ++ VX7 E q130 q133) ++ [iA E q135 48 (fun _ => 0)]) ++ [iA E q136 48 (fun _ => 0)]) ++ [iA E q137 40 (fun _ => 0)])) hin 0 rfl rfl in_X11 tyX11 tyX11_ok nmX11 (by decide) w_398 rfl rfl rfl rfl rfl (Nat.le_of_ble_eq_true rfl) rfl dX11_init_140 rfl ?_
  refine x_aload_n C dX11_init_143 rfl 0 rfl rfl ?_
  refine x_bipush C (v := 21) dX11_init_144 (by decide) rfl ?_
  refine x_newi C 21 w_55 (by decide) (by decide) (by decide) (Nat.le_of_ble_eq_true rfl) (Nat.le_of_ble_eq_true rfl) dX11_init_146 rfl (fun q138 => ?_)
  refine x_ws (ws1 := (ob h 10 [.ref q1, .ref q6, .ref q11, .ref q36, .ref q61, .int 0, .ref q86, .ref q97, .ref q108, .ref q116, .ref q130, .ref q135, .ref q136, .ref q137, .null, .null, .null, .null, .null]) :: (((((((((((((([] ++ VX8 E q1 q4) ++ VX8 E q6 q9) ++ VX9 E q11 q14 q15 q16 q17 q18 q19 q20 q21 q22 q23 q24 q25 q26 q27 q28 q29 q30 q31 q32 q33 q34) ++ VX9 E q36 q39 q40 q41 q42 q43 q44 q45 q46 q47 q48 q49 q50 q51 q52 q53 q54 q55 q56 q57 q58 q59) ++ VX9 E q61 q64 q65 q66 q67 q68 q69 q70 q71 q72 q73 q74 q75 q76 q77 q78 q79 q80 q81 q82 q83 q84) ++ VX3 E q86 q89 q90 q91 q92 q93 q94 q95) ++ VX3 E q97 q100 q101 q102 q103 q104 q105 q106) ++ VX0 E q108 q111 q112 q113 q114) ++ VX6 E q116 q119 q120 q121 q122 q123 q124 q125 q126 q127 q128) ++ VX7 E q130 q133) ++ [iA E q135 48 (fun _ => 0)]) ++ [iA E q136 48 (fun _ => 0)]) ++ [iA E q137 40 (fun _ => 0)]) ++ [iA E q138 21 (fun _ => 0)])) rfl ?_
  refine x_wide (k := 108) (n := 4042) (Nat.le_refl _) (Nat.le_refl _) ?_
  refine x_putF C (ci := 10) (k := 14) (ty := .array .int) (ws1 := (ob h 10 [.ref q1, .ref q6, .ref q11, .ref q36, .ref q61, .int 0, .ref q86, .ref q97, .ref q108, .ref q116, .ref q130, .ref q135, .ref q136, .ref q137, .ref q138, .null, .null, .null, .null]) :: (((((((((((((([] ++ VX8 E q1 q4) ++ VX8 E q6 q9) ++ VX9 E q11 q14 q15 q16 q17 q18 q19 q20 q21 q22 q23 q24 q25 q26 q27 q28 q29 q30 q31 q32 q33 q34) ++ VX9 E q36 q39 q40 q41 q42 q43 q44 q45 q46 q47 q48 q49 q50 q51 q52 q53 q54 q55 q56 q57 q58 q59) ++ VX9 E q61 q64 q65 q66 q67 q68 q69 q70 q71 q72 q73 q74 q75 q76 q77 q78 q79 q80 q81 q82 q83 q84) ++ VX3 E q86 q89 q90 q91 q92 q93 q94 q95) ++ VX3 E q97 q100 q101 q102 q103 q104 q105 q106) ++ VX0 E q108 q111 q112 q113 q114) ++ VX6 E q116 q119 q120 q121 q122 q123 q124 q125 q126 q127 q128) ++ VX7 E q130 q133) ++ [iA E q135 48 (fun _ => 0)]) ++ [iA E q136 48 (fun _ => 0)]) ++ [iA E q137 40 (fun _ => 0)]) ++ [iA E q138 21 (fun _ => 0)])) hin 0 rfl rfl in_X11 tyX11 tyX11_ok nmX11 (by decide) w_399 rfl rfl rfl rfl rfl (Nat.le_of_ble_eq_true rfl) rfl dX11_init_148 rfl ?_
  refine x_aload_n C dX11_init_151 rfl 0 rfl rfl ?_
  refine x_iconst C (v := 3) dX11_init_152 (by decide) rfl ?_
  refine x_newi C 3 w_55 (by decide) (by decide) (by decide) (Nat.le_of_ble_eq_true rfl) (Nat.le_of_ble_eq_true rfl) dX11_init_153 rfl (fun q139 => ?_)
  refine x_ws (ws1 := (ob h 10 [.ref q1, .ref q6, .ref q11, .ref q36, .ref q61, .int 0, .ref q86, .ref q97, .ref q108, .ref q116, .ref q130, .ref q135, .ref q136, .ref q137, .ref q138, .null, .null, .null, .null]) :: ((((((((((((((([] ++ VX8 E q1 q4) ++ VX8 E q6 q9) ++ VX9 E q11 q14 q15 q16 q17 q18 q19 q20 q21 q22 q23 q24 q25 q26 q27 q28 q29 q30 q31 q32 q33 q34) ++ VX9 E q36 q39 q40 q41 q42 q43 q44 q45 q46 q47 q48 q49 q50 q51 q52 q53 q54 q55 q56 q57 q58 q59) ++ VX9 E q61 q64 q65 q66 q67 q68 q69 q70 q71 q72 q73 q74 q75 q76 q77 q78 q79 q80 q81 q82 q83 q84) ++ VX3 E q86 q89 q90 q91 q92 q93 q94 q95) ++ VX3 E q97 q100 q101 q102 q103 q104 q105 q106) ++ VX0 E q108 q111 q112 q113 q114) ++ VX6 E q116 q119 q120 q121 q122 q123 q124 q125 q126 q127 q128) ++ VX7 E q130 q133) ++ [iA E q135 48 (fun _ => 0)]) ++ [iA E q136 48 (fun _ => 0)]) ++ [iA E q137 40 (fun _ => 0)]) ++ [iA E q138 21 (fun _ => 0)]) ++ [iA E q139 3 (fun _ => 0)])) rfl ?_
  refine x_wide (k := 109) (n := 4045) (Nat.le_refl _) (Nat.le_refl _) ?_
  refine x_putF C (ci := 10) (k := 15) (ty := .array .int) (ws1 := (ob h 10 [.ref q1, .ref q6, .ref q11, .ref q36, .ref q61, .int 0, .ref q86, .ref q97, .ref q108, .ref q116, .ref q130, .ref q135, .ref q136, .ref q137, .ref q138, .ref q139, .null, .null, .null]) :: ((((((((((((((([] ++ VX8 E q1 q4) ++ VX8 E q6 q9) ++ VX9 E q11 q14 q15 q16 q17 q18 q19 q20 q21 q22 q23 q24 q25 q26 q27 q28 q29 q30 q31 q32 q33 q34) ++ VX9 E q36 q39 q40 q41 q42 q43 q44 q45 q46 q47 q48 q49 q50 q51 q52 q53 q54 q55 q56 q57 q58 q59) ++ VX9 E q61 q64 q65 q66 q67 q68 q69 q70 q71 q72 q73 q74 q75 q76 q77 q78 q79 q80 q81 q82 q83 q84) ++ VX3 E q86 q89 q90 q91 q92 q93 q94 q95) ++ VX3 E q97 q100 q101 q102 q103 q104 q105 q106) ++ VX0 E q108 q111 q112 q113 q114) ++ VX6 E q116 q119 q120 q121 q122 q123 q124 q125 q126 q127 q128) ++ VX7 E q130 q133) ++ [iA E q135 48 (fun _ => 0)]) ++ [iA E q136 48 (fun _ => 0)]) ++ [iA E q137 40 (fun _ => 0)]) ++ [iA E q138 21 (fun _ => 0)]) ++ [iA E q139 3 (fun _ => 0)])) hin 0 rfl rfl in_X11 tyX11 tyX11_ok nmX11 (by decide) w_400 rfl rfl rfl rfl rfl (Nat.le_of_ble_eq_true rfl) rfl dX11_init_155 rfl ?_
  refine x_aload_n C dX11_init_158 rfl 0 rfl rfl ?_
  refine x_bipush C (v := 8) dX11_init_159 (by decide) rfl ?_
  refine x_newi C 8 w_55 (by decide) (by decide) (by decide) (Nat.le_of_ble_eq_true rfl) (Nat.le_of_ble_eq_true rfl) dX11_init_161 rfl (fun q140 => ?_)
  refine x_ws (ws1 := (ob h 10 [.ref q1, .ref q6, .ref q11, .ref q36, .ref q61, .int 0, .ref q86, .ref q97, .ref q108, .ref q116, .ref q130, .ref q135, .ref q136, .ref q137, .ref q138, .ref q139, .null, .null, .null]) :: (((((((((((((((([] ++ VX8 E q1 q4) ++ VX8 E q6 q9) ++ VX9 E q11 q14 q15 q16 q17 q18 q19 q20 q21 q22 q23 q24 q25 q26 q27 q28 q29 q30 q31 q32 q33 q34) ++ VX9 E q36 q39 q40 q41 q42 q43 q44 q45 q46 q47 q48 q49 q50 q51 q52 q53 q54 q55 q56 q57 q58 q59) ++ VX9 E q61 q64 q65 q66 q67 q68 q69 q70 q71 q72 q73 q74 q75 q76 q77 q78 q79 q80 q81 q82 q83 q84) ++ VX3 E q86 q89 q90 q91 q92 q93 q94 q95) ++ VX3 E q97 q100 q101 q102 q103 q104 q105 q106) ++ VX0 E q108 q111 q112 q113 q114) ++ VX6 E q116 q119 q120 q121 q122 q123 q124 q125 q126 q127 q128) ++ VX7 E q130 q133) ++ [iA E q135 48 (fun _ => 0)]) ++ [iA E q136 48 (fun _ => 0)]) ++ [iA E q137 40 (fun _ => 0)]) ++ [iA E q138 21 (fun _ => 0)]) ++ [iA E q139 3 (fun _ => 0)]) ++ [iA E q140 8 (fun _ => 0)])) rfl ?_
  refine x_wide (k := 110) (n := 4053) (Nat.le_refl _) (Nat.le_refl _) ?_
  refine x_putF C (ci := 10) (k := 16) (ty := .array .int) (ws1 := (ob h 10 [.ref q1, .ref q6, .ref q11, .ref q36, .ref q61, .int 0, .ref q86, .ref q97, .ref q108, .ref q116, .ref q130, .ref q135, .ref q136, .ref q137, .ref q138, .ref q139, .ref q140, .null, .null]) :: (((((((((((((((([] ++ VX8 E q1 q4) ++ VX8 E q6 q9) ++ VX9 E q11 q14 q15 q16 q17 q18 q19 q20 q21 q22 q23 q24 q25 q26 q27 q28 q29 q30 q31 q32 q33 q34) ++ VX9 E q36 q39 q40 q41 q42 q43 q44 q45 q46 q47 q48 q49 q50 q51 q52 q53 q54 q55 q56 q57 q58 q59) ++ VX9 E q61 q64 q65 q66 q67 q68 q69 q70 q71 q72 q73 q74 q75 q76 q77 q78 q79 q80 q81 q82 q83 q84) ++ VX3 E q86 q89 q90 q91 q92 q93 q94 q95) ++ VX3 E q97 q100 q101 q102 q103 q104 q105 q106) ++ VX0 E q108 q111 q112 q113 q114) ++ VX6 E q116 q119 q120 q121 q122 q123 q124 q125 q126 q127 q128) ++ VX7 E q130 q133) ++ [iA E q135 48 (fun _ => 0)]) ++ [iA E q136 48 (fun _ => 0)]) ++ [iA E q137 40 (fun _ => 0)]) ++ [iA E q138 21 (fun _ => 0)]) ++ [iA E q139 3 (fun _ => 0)]) ++ [iA E q140 8 (fun _ => 0)])) hin 0 rfl rfl in_X11 tyX11 tyX11_ok nmX11 (by decide) w_401 rfl rfl rfl rfl rfl (Nat.le_of_ble_eq_true rfl) rfl dX11_init_163 rfl ?_
  refine x_aload_n C dX11_init_166 rfl 0 rfl rfl ?_
  refine x_bipush C (v := 8) dX11_init_167 (by decide) rfl ?_
  refine x_newi C 8 w_55 (by decide) (by decide) (by decide) (Nat.le_of_ble_eq_true rfl) (Nat.le_of_ble_eq_true rfl) dX11_init_169 rfl (fun q141 => ?_)
  refine x_ws (ws1 := (ob h 10 [.ref q1, .ref q6, .ref q11, .ref q36, .ref q61, .int 0, .ref q86, .ref q97, .ref q108, .ref q116, .ref q130, .ref q135, .ref q136, .ref q137, .ref q138, .ref q139, .ref q140, .null, .null]) :: ((((((((((((((((([] ++ VX8 E q1 q4) ++ VX8 E q6 q9) ++ VX9 E q11 q14 q15 q16 q17 q18 q19 q20 q21 q22 q23 q24 q25 q26 q27 q28 q29 q30 q31 q32 q33 q34) ++ VX9 E q36 q39 q40 q41 q42 q43 q44 q45 q46 q47 q48 q49 q50 q51 q52 q53 q54 q55 q56 q57 q58 q59) ++ VX9 E q61 q64 q65 q66 q67 q68 q69 q70 q71 q72 q73 q74 q75 q76 q77 q78 q79 q80 q81 q82 q83 q84) ++ VX3 E q86 q89 q90 q91 q92 q93 q94 q95) ++ VX3 E q97 q100 q101 q102 q103 q104 q105 q106) ++ VX0 E q108 q111 q112 q113 q114) ++ VX6 E q116 q119 q120 q121 q122 q123 q124 q125 q126 q127 q128) ++ VX7 E q130 q133) ++ [iA E q135 48 (fun _ => 0)]) ++ [iA E q136 48 (fun _ => 0)]) ++ [iA E q137 40 (fun _ => 0)]) ++ [iA E q138 21 (fun _ => 0)]) ++ [iA E q139 3 (fun _ => 0)]) ++ [iA E q140 8 (fun _ => 0)]) ++ [iA E q141 8 (fun _ => 0)])) rfl ?_
  refine x_wide (k := 111) (n := 4061) (Nat.le_refl _) (Nat.le_refl _) ?_
  refine x_putF C (ci := 10) (k := 17) (ty := .array .int) (ws1 := (ob h 10 [.ref q1, .ref q6, .ref q11, .ref q36, .ref q61, .int 0, .ref q86, .ref q97, .ref q108, .ref q116, .ref q130, .ref q135, .ref q136, .ref q137, .ref q138, .ref q139, .ref q140, .ref q141, .null]) :: ((((((((((((((((([] ++ VX8 E q1 q4) ++ VX8 E q6 q9) ++ VX9 E q11 q14 q15 q16 q17 q18 q19 q20 q21 q22 q23 q24 q25 q26 q27 q28 q29 q30 q31 q32 q33 q34) ++ VX9 E q36 q39 q40 q41 q42 q43 q44 q45 q46 q47 q48 q49 q50 q51 q52 q53 q54 q55 q56 q57 q58 q59) ++ VX9 E q61 q64 q65 q66 q67 q68 q69 q70 q71 q72 q73 q74 q75 q76 q77 q78 q79 q80 q81 q82 q83 q84) ++ VX3 E q86 q89 q90 q91 q92 q93 q94 q95) ++ VX3 E q97 q100 q101 q102 q103 q104 q105 q106) ++ VX0 E q108 q111 q112 q113 q114) ++ VX6 E q116 q119 q120 q121 q122 q123 q124 q125 q126 q127 q128) ++ VX7 E q130 q133) ++ [iA E q135 48 (fun _ => 0)]) ++ [iA E q136 48 (fun _ => 0)]) ++ [iA E q137 40 (fun _ => 0)]) ++ [iA E q138 21 (fun _ => 0)]) ++ [iA E q139 3 (fun _ => 0)]) ++ [iA E q140 8 (fun _ => 0)]) ++ [iA E q141 8 (fun _ => 0)])) hin 0 rfl rfl in_X11 tyX11 tyX11_ok nmX11 (by decide) w_402 rfl rfl rfl rfl rfl (Nat.le_of_ble_eq_true rfl) rfl dX11_init_171 rfl ?_
  refine x_aload_n C dX11_init_174 rfl 0 rfl rfl ?_
  refine x_bipush C (v := 7) dX11_init_175 (by decide) rfl ?_
  refine x_newi C 7 w_55 (by decide) (by decide) (by decide) (Nat.le_of_ble_eq_true rfl) (Nat.le_of_ble_eq_true rfl) dX11_init_177 rfl (fun q142 => ?_)
  refine x_ws (ws1 := (ob h 10 [.ref q1, .ref q6, .ref q11, .ref q36, .ref q61, .int 0, .ref q86, .ref q97, .ref q108, .ref q116, .ref q130, .ref q135, .ref q136, .ref q137, .ref q138, .ref q139, .ref q140, .ref q141, .null]) :: (((((((((((((((((([] ++ VX8 E q1 q4) ++ VX8 E q6 q9) ++ VX9 E q11 q14 q15 q16 q17 q18 q19 q20 q21 q22 q23 q24 q25 q26 q27 q28 q29 q30 q31 q32 q33 q34) ++ VX9 E q36 q39 q40 q41 q42 q43 q44 q45 q46 q47 q48 q49 q50 q51 q52 q53 q54 q55 q56 q57 q58 q59) ++ VX9 E q61 q64 q65 q66 q67 q68 q69 q70 q71 q72 q73 q74 q75 q76 q77 q78 q79 q80 q81 q82 q83 q84) ++ VX3 E q86 q89 q90 q91 q92 q93 q94 q95) ++ VX3 E q97 q100 q101 q102 q103 q104 q105 q106) ++ VX0 E q108 q111 q112 q113 q114) ++ VX6 E q116 q119 q120 q121 q122 q123 q124 q125 q126 q127 q128) ++ VX7 E q130 q133) ++ [iA E q135 48 (fun _ => 0)]) ++ [iA E q136 48 (fun _ => 0)]) ++ [iA E q137 40 (fun _ => 0)]) ++ [iA E q138 21 (fun _ => 0)]) ++ [iA E q139 3 (fun _ => 0)]) ++ [iA E q140 8 (fun _ => 0)]) ++ [iA E q141 8 (fun _ => 0)]) ++ [iA E q142 7 (fun _ => 0)])) rfl ?_
  refine x_wide (k := 112) (n := 4068) (Nat.le_refl _) (Nat.le_refl _) ?_
  refine x_putF C (ci := 10) (k := 18) (ty := .array .int) (ws1 := (ob h 10 [.ref q1, .ref q6, .ref q11, .ref q36, .ref q61, .int 0, .ref q86, .ref q97, .ref q108, .ref q116, .ref q130, .ref q135, .ref q136, .ref q137, .ref q138, .ref q139, .ref q140, .ref q141, .ref q142]) :: (((((((((((((((((([] ++ VX8 E q1 q4) ++ VX8 E q6 q9) ++ VX9 E q11 q14 q15 q16 q17 q18 q19 q20 q21 q22 q23 q24 q25 q26 q27 q28 q29 q30 q31 q32 q33 q34) ++ VX9 E q36 q39 q40 q41 q42 q43 q44 q45 q46 q47 q48 q49 q50 q51 q52 q53 q54 q55 q56 q57 q58 q59) ++ VX9 E q61 q64 q65 q66 q67 q68 q69 q70 q71 q72 q73 q74 q75 q76 q77 q78 q79 q80 q81 q82 q83 q84) ++ VX3 E q86 q89 q90 q91 q92 q93 q94 q95) ++ VX3 E q97 q100 q101 q102 q103 q104 q105 q106) ++ VX0 E q108 q111 q112 q113 q114) ++ VX6 E q116 q119 q120 q121 q122 q123 q124 q125 q126 q127 q128) ++ VX7 E q130 q133) ++ [iA E q135 48 (fun _ => 0)]) ++ [iA E q136 48 (fun _ => 0)]) ++ [iA E q137 40 (fun _ => 0)]) ++ [iA E q138 21 (fun _ => 0)]) ++ [iA E q139 3 (fun _ => 0)]) ++ [iA E q140 8 (fun _ => 0)]) ++ [iA E q141 8 (fun _ => 0)]) ++ [iA E q142 7 (fun _ => 0)])) hin 0 rfl rfl in_X11 tyX11 tyX11_ok nmX11 (by decide) w_403 rfl rfl rfl rfl rfl (Nat.le_of_ble_eq_true rfl) rfl dX11_init_179 rfl ?_
  exact x_vret C hr hlk dX11_init_182 ⟨adX h q1 q4 q6 q9 q11 q14 q15 q16 q17 q18 q19 q20 q21 q22 q23 q24 q25 q26 q27 q28 q29 q30 q31 q32 q33 q34 q36 q39 q40 q41 q42 q43 q44 q45 q46 q47 q48 q49 q50 q51 q52 q53 q54 q55 q56 q57 q58 q59 q61 q64 q65 q66 q67 q68 q69 q70 q71 q72 q73 q74 q75 q76 q77 q78 q79 q80 q81 q82 q83 q84 q86 q89 q90 q91 q92 q93 q94 q95 q97 q100 q101 q102 q103 q104 q105 q106 q108 q111 q112 q113 q114 q116 q119 q120 q121 q122 q123 q124 q125 q126 q127 q128 q130 q133 q135 q136 q137 q138 q139 q140 q141 q142, rfl, (show WX (okX E (adX h q1 q4 q6 q9 q11 q14 q15 q16 q17 q18 q19 q20 q21 q22 q23 q24 q25 q26 q27 q28 q29 q30 q31 q32 q33 q34 q36 q39 q40 q41 q42 q43 q44 q45 q46 q47 q48 q49 q50 q51 q52 q53 q54 q55 q56 q57 q58 q59 q61 q64 q65 q66 q67 q68 q69 q70 q71 q72 q73 q74 q75 q76 q77 q78 q79 q80 q81 q82 q83 q84 q86 q89 q90 q91 q92 q93 q94 q95 q97 q100 q101 q102 q103 q104 q105 q106 q108 q111 q112 q113 q114 q116 q119 q120 q121 q122 q123 q124 q125 q126 q127 q128 q130 q133 q135 q136 q137 q138 q139 q140 q141 q142)) (VX11 E h q1 q4 q6 q9 q11 q14 q15 q16 q17 q18 q19 q20 q21 q22 q23 q24 q25 q26 q27 q28 q29 q30 q31 q32 q33 q34 q36 q39 q40 q41 q42 q43 q44 q45 q46 q47 q48 q49 q50 q51 q52 q53 q54 q55 q56 q57 q58 q59 q61 q64 q65 q66 q67 q68 q69 q70 q71 q72 q73 q74 q75 q76 q77 q78 q79 q80 q81 q82 q83 q84 q86 q89 q90 q91 q92 q93 q94 q95 q97 q100 q101 q102 q103 q104 q105 q106 q108 q111 q112 q113 q114 q116 q119 q120 q121 q122 q123 q124 q125 q126 q127 q128 q130 q133 q135 q136 q137 q138 q139 q140 q141 q142) from by rw [VF11_eq]; exact VF11_ok E h q1 q4 q6 q9 q11 q14 q15 q16 q17 q18 q19 q20 q21 q22 q23 q24 q25 q26 q27 q28 q29 q30 q31 q32 q33 q34 q36 q39 q40 q41 q42 q43 q44 q45 q46 q47 q48 q49 q50 q51 q52 q53 q54 q55 q56 q57 q58 q59 q61 q64 q65 q66 q67 q68 q69 q70 q71 q72 q73 q74 q75 q76 q77 q78 q79 q80 q81 q82 q83 q84 q86 q89 q90 q91 q92 q93 q94 q95 q97 q100 q101 q102 q103 q104 q105 q106 q108 q111 q112 q113 q114 q116 q119 q120 q121 q122 q123 q124 q125 q126 q127 q128 q130 q133 q135 q136 q137 q138 q139 q140 q141 q142), (show JX (adX h q1 q4 q6 q9 q11 q14 q15 q16 q17 q18 q19 q20 q21 q22 q23 q24 q25 q26 q27 q28 q29 q30 q31 q32 q33 q34 q36 q39 q40 q41 q42 q43 q44 q45 q46 q47 q48 q49 q50 q51 q52 q53 q54 q55 q56 q57 q58 q59 q61 q64 q65 q66 q67 q68 q69 q70 q71 q72 q73 q74 q75 q76 q77 q78 q79 q80 q81 q82 q83 q84 q86 q89 q90 q91 q92 q93 q94 q95 q97 q100 q101 q102 q103 q104 q105 q106 q108 q111 q112 q113 q114 q116 q119 q120 q121 q122 q123 q124 q125 q126 q127 q128 q130 q133 q135 q136 q137 q138 q139 q140 q141 q142) (VX11 E h q1 q4 q6 q9 q11 q14 q15 q16 q17 q18 q19 q20 q21 q22 q23 q24 q25 q26 q27 q28 q29 q30 q31 q32 q33 q34 q36 q39 q40 q41 q42 q43 q44 q45 q46 q47 q48 q49 q50 q51 q52 q53 q54 q55 q56 q57 q58 q59 q61 q64 q65 q66 q67 q68 q69 q70 q71 q72 q73 q74 q75 q76 q77 q78 q79 q80 q81 q82 q83 q84 q86 q89 q90 q91 q92 q93 q94 q95 q97 q100 q101 q102 q103 q104 q105 q106 q108 q111 q112 q113 q114 q116 q119 q120 q121 q122 q123 q124 q125 q126 q127 q128 q130 q133 q135 q136 q137 q138 q139 q140 q141 q142) 0 0 0 0 0 from by rw [VF11_eq]; exact VF11_J E h q1 q4 q6 q9 q11 q14 q15 q16 q17 q18 q19 q20 q21 q22 q23 q24 q25 q26 q27 q28 q29 q30 q31 q32 q33 q34 q36 q39 q40 q41 q42 q43 q44 q45 q46 q47 q48 q49 q50 q51 q52 q53 q54 q55 q56 q57 q58 q59 q61 q64 q65 q66 q67 q68 q69 q70 q71 q72 q73 q74 q75 q76 q77 q78 q79 q80 q81 q82 q83 q84 q86 q89 q90 q91 q92 q93 q94 q95 q97 q100 q101 q102 q103 q104 q105 q106 q108 q111 q112 q113 q114 q116 q119 q120 q121 q122 q123 q124 q125 q126 q127 q128 q130 q133 q135 q136 q137 q138 q139 q140 q141 q142)⟩
theorem dX12_init_0 : decode cX12_init 0 = .ok (.aload_n 0, 1) := by decide +kernel
theorem dX12_init_1 : decode cX12_init 1 = .ok (.invokespecial 1, 3) := by decide +kernel
theorem dX12_init_4 : decode cX12_init 4 = .ok (.aload_n 0, 1) := by decide +kernel
theorem dX12_init_5 : decode cX12_init 5 = .ok (.sipush 382, 3) := by decide +kernel
theorem dX12_init_8 : decode cX12_init 8 = .ok (.newarray .int, 2) := by decide +kernel
theorem dX12_init_10 : decode cX12_init 10 = .ok (.putfield 7, 3) := by decide +kernel
theorem dX12_init_13 : decode cX12_init 13 = .ok (.aload_n 0, 1) := by decide +kernel
theorem dX12_init_14 : decode cX12_init 14 = .ok (.sipush 382, 3) := by decide +kernel
theorem dX12_init_17 : decode cX12_init 17 = .ok (.newarray .int, 2) := by decide +kernel
theorem dX12_init_19 : decode cX12_init 19 = .ok (.putfield 13, 3) := by decide +kernel
theorem dX12_init_22 : decode cX12_init 22 = .ok (.aload_n 0, 1) := by decide +kernel
theorem dX12_init_23 : decode cX12_init 23 = .ok (.sipush 382, 3) := by decide +kernel
theorem dX12_init_26 : decode cX12_init 26 = .ok (.newarray .int, 2) := by decide +kernel
theorem dX12_init_28 : decode cX12_init 28 = .ok (.putfield 16, 3) := by decide +kernel
theorem dX12_init_31 : decode cX12_init 31 = .ok (.aload_n 0, 1) := by decide +kernel
theorem dX12_init_32 : decode cX12_init 32 = .ok (.sipush 260, 3) := by decide +kernel
theorem dX12_init_35 : decode cX12_init 35 = .ok (.newarray .byte, 2) := by decide +kernel
theorem dX12_init_37 : decode cX12_init 37 = .ok (.putfield 19, 3) := by decide +kernel
theorem dX12_init_40 : decode cX12_init 40 = .ok (.aload_n 0, 1) := by decide +kernel
theorem dX12_init_41 : decode cX12_init 41 = .ok (.sipush 260, 3) := by decide +kernel
theorem dX12_init_44 : decode cX12_init 44 = .ok (.newarray .int, 2) := by decide +kernel
theorem dX12_init_46 : decode cX12_init 46 = .ok (.putfield 23, 3) := by decide +kernel
theorem dX12_init_49 : decode cX12_init 49 = .ok (.aload_n 0, 1) := by decide +kernel
theorem dX12_init_50 : decode cX12_init 50 = .ok (.sipush 260, 3) := by decide +kernel
theorem dX12_init_53 : decode cX12_init 53 = .ok (.newarray .int, 2) := by decide +kernel
theorem dX12_init_55 : decode cX12_init 55 = .ok (.putfield 26, 3) := by decide +kernel
theorem dX12_init_58 : decode cX12_init 58 = .ok (.aload_n 0, 1) := by decide +kernel
theorem dX12_init_59 : decode cX12_init 59 = .ok (.bipush 16, 2) := by decide +kernel
theorem dX12_init_61 : decode cX12_init 61 = .ok (.newarray .int, 2) := by decide +kernel
theorem dX12_init_63 : decode cX12_init 63 = .ok (.putfield 29, 3) := by decide +kernel
theorem dX12_init_66 : decode cX12_init 66 = .ok (.aload_n 0, 1) := by decide +kernel
theorem dX12_init_67 : decode cX12_init 67 = .ok (.bipush 16, 2) := by decide +kernel
theorem dX12_init_69 : decode cX12_init 69 = .ok (.newarray .int, 2) := by decide +kernel
theorem dX12_init_71 : decode cX12_init 71 = .ok (.putfield 32, 3) := by decide +kernel
theorem dX12_init_74 : decode cX12_init 74 = .ok (.aload_n 0, 1) := by decide +kernel
theorem dX12_init_75 : decode cX12_init 75 = .ok (.bipush 16, 2) := by decide +kernel
theorem dX12_init_77 : decode cX12_init 77 = .ok (.newarray .int, 2) := by decide +kernel
theorem dX12_init_79 : decode cX12_init 79 = .ok (.putfield 35, 3) := by decide +kernel
theorem dX12_init_82 : decode cX12_init 82 = .ok (.aload_n 0, 1) := by decide +kernel
theorem dX12_init_83 : decode cX12_init 83 = .ok (.bipush 16, 2) := by decide +kernel
theorem dX12_init_85 : decode cX12_init 85 = .ok (.newarray .int, 2) := by decide +kernel
theorem dX12_init_87 : decode cX12_init 87 = .ok (.putfield 38, 3) := by decide +kernel
theorem dX12_init_90 : decode cX12_init 90 = .ok (.aload_n 0, 1) := by decide +kernel
theorem dX12_init_91 : decode cX12_init 91 = .ok (.sipush 260, 3) := by decide +kernel
theorem dX12_init_94 : decode cX12_init 94 = .ok (.newarray .int, 2) := by decide +kernel
theorem dX12_init_96 : decode cX12_init 96 = .ok (.putfield 41, 3) := by decide +kernel
theorem dX12_init_99 : decode cX12_init 99 = .ok (.aload_n 0, 1) := by decide +kernel
theorem dX12_init_100 : decode cX12_init 100 = .ok (.bipush 16, 2) := by decide +kernel
theorem dX12_init_102 : decode cX12_init 102 = .ok (.newarray .int, 2) := by decide +kernel
theorem dX12_init_104 : decode cX12_init 104 = .ok (.putfield 44, 3) := by decide +kernel
theorem dX12_init_107 : decode cX12_init 107 = .ok (.aload_n 0, 1) := by decide +kernel
theorem dX12_init_108 : decode cX12_init 108 = .ok (.bipush 16, 2) := by decide +kernel
theorem dX12_init_110 : decode cX12_init 110 = .ok (.newarray .int, 2) := by decide +kernel
theorem dX12_init_112 : decode cX12_init 112 = .ok (.putfield 47, 3) := by decide +kernel
theorem dX12_init_115 : decode cX12_init 115 = .ok (.aload_n 0, 1) := by decide +kernel
theorem dX12_init_116 : decode cX12_init 116 = .ok (.bipush 16, 2) := by decide +kernel
theorem dX12_init_118 : decode cX12_init 118 = .ok (.newarray .int, 2) := by decide +kernel
theorem dX12_init_120 : decode cX12_init 120 = .ok (.putfield 50, 3) := by decide +kernel
theorem dX12_init_123 : decode cX12_init 123 = .ok (.aload_n 0, 1) := by decide +kernel
theorem dX12_init_124 : decode cX12_init 124 = .ok (.bipush 16, 2) := by decide +kernel
theorem dX12_init_126 : decode cX12_init 126 = .ok (.newarray .int, 2) := by decide +kernel
theorem dX12_init_128 : decode cX12_init 128 = .ok (.putfield 53, 3) := by decide +kernel
theorem dX12_init_131 : decode cX12_init 131 = .ok (.aload_n 0, 1) := by decide +kernel
theorem dX12_init_132 : decode cX12_init 132 = .ok (.sipush 260, 3) := by decide +kernel
theorem dX12_init_135 : decode cX12_init 135 = .ok (.newarray .int, 2) := by decide +kernel
theorem dX12_init_137 : decode cX12_init 137 = .ok (.putfield 56, 3) := by decide +kernel
theorem dX12_init_140 : decode cX12_init 140 = .ok (.aload_n 0, 1) := by decide +kernel
theorem dX12_init_141 : decode cX12_init 141 = .ok (.bipush 11, 2) := by decide +kernel
theorem dX12_init_143 : decode cX12_init 143 = .ok (.newarray .int, 2) := by decide +kernel
theorem dX12_init_145 : decode cX12_init 145 = .ok (.putfield 59, 3) := by decide +kernel
theorem dX12_init_148 : decode cX12_init 148 = .ok (.aload_n 0, 1) := by decide +kernel
theorem dX12_init_149 : decode cX12_init 149 = .ok (.bipush 25, 2) := by decide +kernel
theorem dX12_init_151 : decode cX12_init 151 = .ok (.newarray .int, 2) := by decide +kernel
theorem dX12_init_153 : decode cX12_init 153 = .ok (.putfield 62, 3) := by decide +kernel
theorem dX12_init_156 : decode cX12_init 156 = .ok (.aload_n 0, 1) := by decide +kernel
theorem dX12_init_157 : decode cX12_init 157 = .ok (.bipush 24, 2) := by decide +kernel
theorem dX12_init_159 : decode cX12_init 159 = .ok (.newarray .int, 2) := by decide +kernel
theorem dX12_init_161 : decode cX12_init 161 = .ok (.putfield 65, 3) := by decide +kernel
theorem dX12_init_164 : decode cX12_init 164 = .ok (.aload_n 0, 1) := by decide +kernel
theorem dX12_init_165 : decode cX12_init 165 = .ok (.bipush 24, 2) := by decide +kernel
theorem dX12_init_167 : decode cX12_init 167 = .ok (.newarray .int, 2) := by decide +kernel
theorem dX12_init_169 : decode cX12_init 169 = .ok (.putfield 68, 3) := by decide +kernel
theorem dX12_init_172 : decode cX12_init 172 = .ok (.aload_n 0, 1) := by decide +kernel
theorem dX12_init_173 : decode cX12_init 173 = .ok (.sipush 192, 3) := by decide +kernel
theorem dX12_init_176 : decode cX12_init 176 = .ok (.newarray .int, 2) := by decide +kernel
theorem dX12_init_178 : decode cX12_init 178 = .ok (.putfield 71, 3) := by decide +kernel
theorem dX12_init_181 : decode cX12_init 181 = .ok (.aload_n 0, 1) := by decide +kernel
theorem dX12_init_182 : decode cX12_init 182 = .ok (.bipush 12, 2) := by decide +kernel
theorem dX12_init_184 : decode cX12_init 184 = .ok (.newarray .int, 2) := by decide +kernel
theorem dX12_init_186 : decode cX12_init 186 = .ok (.putfield 74, 3) := by decide +kernel
theorem dX12_init_189 : decode cX12_init 189 = .ok (.aload_n 0, 1) := by decide +kernel
theorem dX12_init_190 : decode cX12_init 190 = .ok (.iconst 4, 1) := by decide +kernel
theorem dX12_init_191 : decode cX12_init 191 = .ok (.newarray .int, 2) := by decide +kernel
theorem dX12_init_193 : decode cX12_init 193 = .ok (.putfield 77, 3) := by decide +kernel
theorem dX12_init_196 : decode cX12_init 196 = .ok (.aload_n 0, 1) := by decide +kernel
theorem dX12_init_197 : decode cX12_init 197 = .ok (.sipush 5120, 3) := by decide +kernel
theorem dX12_init_200 : decode cX12_init 200 = .ok (.newarray .int, 2) := by decide +kernel
theorem dX12_init_202 : decode cX12_init 202 = .ok (.putfield 80, 3) := by decide +kernel
theorem dX12_init_205 : decode cX12_init 205 = .ok (.aload_n 0, 1) := by decide +kernel
theorem dX12_init_206 : decode cX12_init 206 = .ok (.sipush 1024, 3) := by decide +kernel
theorem dX12_init_209 : decode cX12_init 209 = .ok (.newarray .int, 2) := by decide +kernel
theorem dX12_init_211 : decode cX12_init 211 = .ok (.putfield 83, 3) := by decide +kernel
theorem dX12_init_214 : decode cX12_init 214 = .ok (.aload_n 0, 1) := by decide +kernel
theorem dX12_init_215 : decode cX12_init 215 = .ok (.bipush 48, 2) := by decide +kernel
theorem dX12_init_217 : decode cX12_init 217 = .ok (.newarray .int, 2) := by decide +kernel
theorem dX12_init_219 : decode cX12_init 219 = .ok (.putfield 86, 3) := by decide +kernel
theorem dX12_init_222 : decode cX12_init 222 = .ok (.aload_n 0, 1) := by decide +kernel
theorem dX12_init_223 : decode cX12_init 223 = .ok (.bipush 48, 2) := by decide +kernel
theorem dX12_init_225 : decode cX12_init 225 = .ok (.newarray .int, 2) := by decide +kernel
theorem dX12_init_227 : decode cX12_init 227 = .ok (.putfield 89, 3) := by decide +kernel
theorem dX12_init_230 : decode cX12_init 230 = .ok (.aload_n 0, 1) := by decide +kernel
theorem dX12_init_231 : decode cX12_init 231 = .ok (.bipush 40, 2) := by decide +kernel
theorem dX12_init_233 : decode cX12_init 233 = .ok (.newarray .int, 2) := by decide +kernel
theorem dX12_init_235 : decode cX12_init 235 = .ok (.putfield 92, 3) := by decide +kernel
theorem dX12_init_238 : decode cX12_init 238 = .ok (.aload_n 0, 1) := by decide +kernel
theorem dX12_init_239 : decode cX12_init 239 = .ok (.sipush 273, 3) := by decide +kernel
theorem dX12_init_242 : decode cX12_init 242 = .ok (.newarray .int, 2) := by decide +kernel
theorem dX12_init_244 : decode cX12_init 244 = .ok (.putfield 95, 3) := by decide +kernel
theorem dX12_init_247 : decode cX12_init 247 = .ok (.aload_n 0, 1) := by decide +kernel
theorem dX12_init_248 : decode cX12_init 248 = .ok (.iconst 5, 1) := by decide +kernel
theorem dX12_init_249 : decode cX12_init 249 = .ok (.newarray .int, 2) := by decide +kernel
theorem dX12_init_251 : decode cX12_init 251 = .ok (.putfield 98, 3) := by decide +kernel
theorem dX12_init_254 : decode cX12_init 254 = .ok (.aload_n 0, 1) := by decide +kernel
theorem dX12_init_255 : decode cX12_init 255 = .ok (.getfield 7, 3) := by decide +kernel
theorem dX12_init_258 : decode cX12_init 258 = .ok (.sipush 380, 3) := by decide +kernel
theorem dX12_init_261 : decode cX12_init 261 = .ok (.iconst 1, 1) := by decide +kernel
theorem dX12_init_262 : decode cX12_init 262 = .ok (.iastore, 1) := by decide +kernel
theorem dX12_init_263 : decode cX12_init 263 = .ok (.return_, 1) := by decide +kernel
set_option maxRecDepth 20000 in
set_option maxHeartbeats 4000000 in
theorem i_X12 (E : xE) (l : Launch) (h : Nat) : xV E l yX12_init cX12_init 1 4 30 9424 [.ref h] [ob h 11 [.null, .null, .null, .null, .int 0, .int 0, .int 0, .int 0, .int 0, .int 0, .int 0, .int 0, .int 0, .int 0, .null, .null, .null, .null, .null, .null, .null, .null, .null, .null, .null, .null, .null, .int 0, .null, .null, .null, .null, .int 0, .int 0, .int 0, .int 0, .int 0, .int 0, .null, .null, .null, .null, .null, .null, .null, .null, .null, .int 0]] (fun w => FM E h 0 0 0 0 0 w) := by
  refine xV_start (lv := [(0, .ref h)]) RX12 (by decide) rfl (Nat.le_of_ble_eq_true rfl) rfl (fun p e s m below meth c A C hr hlk hin => ?_)
  refine x_aload_n C dX12_init_0 rfl 0 rfl rfl ?_
  refine x_oinit C w_1117 w_28 w_29 dX12_init_1 (Nat.le_of_ble_eq_true rfl) (Nat.le_of_ble_eq_true rfl) rfl ?_
  refine x_aload_n C dX12_init_4 rfl 0 rfl rfl ?_
  refine x_sipush C (v := 382) dX12_init_5 (by decide) rfl ?_
  refine x_newi C 382 w_55 (by decide) (by decide) (by decide) (Nat.le_of_ble_eq_true rfl) (Nat.le_of_ble_eq_true rfl) dX12_init_8 rfl (fun q1 => ?_)
  refine x_ws (ws1 := [ob h 11 [.null, .null, .null, .null, .int 0, .int 0, .int 0, .int 0, .int 0, .int 0, .int 0, .int 0, .int 0, .int 0, .null, .null, .null, .null, .null, .null, .null, .null, .null, .null, .null, .null, .null, .int 0, .null, .null, .null, .null, .int 0, .int 0, .int 0, .int 0, .int 0, .int 0, .null, .null, .null, .null, .null, .null, .null, .null, .null, .int 0], iA E q1 382 (fun _ => 0)]) rfl ?_
  refine x_wide (k := 1) (n := 382) (Nat.le_refl _) (Nat.le_refl _) ?_
  refine x_putF C (ci := 11) (k := 0) (ty := .array .int) (ws1 := [ob h 11 [.ref q1, .null, .null, .null, .int 0, .int 0, .int 0, .int 0, .int 0, .int 0, .int 0, .int 0, .int 0, .int 0, .null, .null, .null, .null, .null, .null, .null, .null, .null, .null, .null, .null, .null, .int 0, .null, .null, .null, .null, .int 0, .int 0, .int 0, .int 0, .int 0, .int 0, .null, .null, .null, .null, .null, .null, .null, .null, .null, .int 0], iA E q1 382 (fun _ => 0)]) hin 0 rfl rfl in_X12 tyX12 tyX12_ok nmX12 (by decide) w_1118 rfl rfl rfl rfl rfl (Nat.le_of_ble_eq_true rfl) rfl dX12_init_10 rfl ?_
  refine x_aload_n C dX12_init_13 rfl 0 rfl rfl ?_
  refine x_sipush C (v := 382) dX12_init_14 (by decide) rfl ?_
  refine x_newi C 382 w_55 (by decide) (by decide) (by decide) (Nat.le_of_ble_eq_true rfl) (Nat.le_of_ble_eq_true rfl) dX12_init_17 rfl (fun q2 => ?_)
  refine x_ws (ws1 := [ob h 11 [.ref q1, .null, .null, .null, .int 0, .int 0, .int 0, .int 0, .int 0, .int 0, .int 0, .int 0, .int 0, .int 0, .null, .null, .null, .null, .null, .null, .null, .null, .null, .null, .null, .null, .null, .int 0, .null, .null, .null, .null, .int 0, .int 0, .int 0, .int 0, .int 0, .int 0, .null, .null, .null, .null, .null, .null, .null, .null, .null, .int 0], iA E q1 382 (fun _ => 0), iA E q2 382 (fun _ => 0)]) rfl ?_
  refine x_wide (k := 2) (n := 764) (Nat.le_refl _) (Nat.le_refl _) ?_
  refine x_putF C (ci := 11) (k := 1) (ty := .array .int) (ws1 := [ob h 11 [.ref q1, .ref q2, .null, .null, .int 0, .int 0, .int 0, .int 0, .int 0, .int 0, .int 0, .int 0, .int 0, .int 0, .null, .null, .null, .null, .null, .null, .null, .null, .null, .null, .null, .null, .null, .int 0, .null, .null, .null, .null, .int 0, .int 0, .int 0, .int 0, .int 0, .int 0, .null, .null, .null, .null, .null, .null, .null, .null, .null, .int 0], iA E q1 382 (fun _ => 0), iA E q2 382 (fun _ => 0)]) hin 0 rfl rfl in_X12 tyX12 tyX12_ok nmX12 (by decide) w_1119 rfl rfl rfl rfl rfl (Nat.le_of_ble_eq_true rfl) rfl dX12_init_19 rfl ?_
  refine x_aload_n C dX12_init_22 rfl 0 rfl rfl ?_
  refine x_sipush C (v := 382) dX12_init_23 (by decide) rfl ?_
  refine x_newi C 382 w_55 (by decide) (by decide) (by decide) (Nat.le_of_ble_eq_true rfl) (Nat.le_of_ble_eq_true rfl) dX12_init_26 rfl (fun q3 => ?_)
  refine x_ws (ws1 := [ob h 11 [.ref q1, .ref q2, .null, .null, .int 0, .int 0, .int 0, .int 0, .int 0, .int 0, .int 0, .int 0, .int 0, .int 0, .null, .null, .null, .null, .null, .null, .null, .null, .null, .null, .null, .null, .null, .int 0, .null, .null, .null, .null, .int 0, .int 0, .int 0, .int 0, .int 0, .int 0, .null, .null, .null, .null, .null, .null, .null, .null, .null, .int 0], iA E q1 382 (fun _ => 0), iA E q2 382 (fun _ => 0), iA E q3 382 (fun _ => 0)]) rfl ?_
  refine x_wide (k := 3) (n := 1146) (Nat.le_refl _) (Nat.le_refl _) ?_
  refine x_putF C (ci := 11) (k := 2) (ty := .array .int) (ws1 := [ob h 11 [.ref q1, .ref q2, .ref q3, .null, .int 0, .int 0, .int 0, .int 0, .int 0, .int 0, .int 0, .int 0, .int 0, .int 0, .null, .null, .null, .null, .null, .null, .null, .null, .null, .null, .null, .null, .null, .int 0, .null, .null, .null, .null, .int 0, .int 0, .int 0, .int 0, .int 0, .int 0, .null, .null, .null, .null, .null, .null, .null, .null, .null, .int 0], iA E q1 382 (fun _ => 0), iA E q2 382 (fun _ => 0), iA E q3 382 (fun _ => 0)]) hin 0 rfl rfl in_X12 tyX12 tyX12_ok nmX12 (by decide) w_1120 rfl rfl rfl rfl rfl (Nat.le_of_ble_eq_true rfl) rfl dX12_init_28 rfl ?_
  refine x_aload_n C dX12_init_31 rfl 0 rfl rfl ?_
  refine x_sipush C (v := 260) dX12_init_32 (by decide) rfl ?_
  refine x_newb C 260 w_659 (by decide) (by decide) (by decide) (Nat.le_of_ble_eq_true rfl) (Nat.le_of_ble_eq_true rfl) dX12_init_35 rfl (fun q4 => ?_)
  refine x_ws (ws1 := [ob h 11 [.ref q1, .ref q2, .ref q3, .null, .int 0, .int 0, .int 0, .int 0, .int 0, .int 0, .int 0, .int 0, .int 0, .int 0, .null, .null, .null, .null, .null, .null, .null, .null, .null, .null, .null, .null, .null, .int 0, .null, .null, .null, .null, .int 0, .int 0, .int 0, .int 0, .int 0, .int 0, .null, .null, .null, .null, .null, .null, .null, .null, .null, .int 0], iA E q1 382 (fun _ => 0), iA E q2 382 (fun _ => 0), iA E q3 382 (fun _ => 0), bA E q4 260 (fun _ => 0)]) rfl ?_
  refine x_wide (k := 4) (n := 1406) (Nat.le_refl _) (Nat.le_refl _) ?_
  refine x_putF C (ci := 11) (k := 3) (ty := .array .byte) (ws1 := [ob h 11 [.ref q1, .ref q2, .ref q3, .ref q4, .int 0, .int 0, .int 0, .int 0, .int 0, .int 0, .int 0, .int 0, .int 0, .int 0, .null, .null, .null, .null, .null, .null, .null, .null, .null, .null, .null, .null, .null, .int 0, .null, .null, .null, .null, .int 0, .int 0, .int 0, .int 0, .int 0, .int 0, .null, .null, .null, .null, .null, .null, .null, .null, .null, .int 0], iA E q1 382 (fun _ => 0), iA E q2 382 (fun _ => 0), iA E q3 382 (fun _ => 0), bA E q4 260 (fun _ => 0)]) hin 0 rfl rfl in_X12 tyX12 tyX12_ok nmX12 (by decide) w_1121 rfl rfl rfl rfl rfl (Nat.le_of_ble_eq_true rfl) rfl dX12_init_37 rfl ?_
  refine x_aload_n C dX12_init_40 rfl 0 rfl rfl ?_
  refine x_sipush C (v := 260) dX12_init_41 (by decide) rfl ?_
  refine x_newi C 260 w_55 (by decide) (by decide) (by decide) (Nat.le_of_ble_eq_true rfl) (Nat.le_of_ble_eq_true rfl) dX12_init_44 rfl (fun q5 => ?_)
  refine x_ws (ws1 := [ob h 11 [.ref q1, .ref q2, .ref q3, .ref q4, .int 0, .int 0, .int 0, .int 0, .int 0, .int 0, .int 0, .int 0, .int 0, .int 0, .null, .null, .null, .null, .null, .null, .null, .null, .null, .null, .null, .null, .null, .int 0, .null, .null, .null, .null, .int 0, .int 0, .int 0, .int 0, .int 0, .int 0, .null, .null, .null, .null, .null, .null, .null, .null, .null, .int 0], iA E q1 382 (fun _ => 0), iA E q2 382 (fun _ => 0), iA E q3 382 (fun _ => 0), bA E q4 260 (fun _ => 0), iA E q5 260 (fun _ => 0)]) rfl ?_
  refine x_wide (k := 5) (n := 1666) (Nat.le_refl _) (Nat.le_refl _) ?_
  refine x_putF C (ci := 11) (k := 14) (ty := .array .int) (ws1 := [ob h 11 [.ref q1, .ref q2, .ref q3, .ref q4, .int 0, .int 0, .int 0, .int 0, .int 0, .int 0, .int 0, .int 0, .int 0, .int 0, .ref q5, .null, .null, .null, .null, .null, .null, .null, .null, .null, .null, .null, .null, .int 0, .null, .null, .null, .null, .int 0, .int 0, .int 0, .int 0, .int 0, .int 0, .null, .null, .null, .null, .null, .null, .null, .null, .null, .int 0], iA E q1 382 (fun _ => 0), iA E q2 382 (fun _ => 0), iA E q3 382 (fun _ => 0), bA E q4 260 (fun _ => 0), iA E q5 260 (fun _ => 0)]) hin 0 rfl rfl in_X12 tyX12 tyX12_ok nmX12 (by decide) w_1132 rfl rfl rfl rfl rfl (Nat.le_of_ble_eq_true rfl) rfl dX12_init_46 rfl ?_
  refine x_aload_n C dX12_init_49 rfl 0 rfl rfl ?_
  refine x_sipush C (v := 260) dX12_init_50 (by decide) rfl ?_
  refine x_newi C 260 w_55 (by decide) (by decide) (by decide) (Nat.le_of_ble_eq_true rfl) (Nat.le_of_ble_eq_true rfl) dX12_init_53 rfl (fun q6 => ?_)
  refine x_ws (ws1 := [ob h 11 [.ref q1, .ref q2, .ref q3, .ref q4, .int 0, .int 0, .int 0, .int 0, .int 0, .int 0, .int 0, .int 0, .int 0, .int 0, .ref q5, .null, .null, .null, .null, .null, .null, .null, .null, .null, .null, .null, .null, .int 0, .null, .null, .null, .null, .int 0, .int 0, .int 0, .int 0, .int 0, .int 0, .null, .null, .null, .null, .null, .null, .null, .null, .null, .int 0], iA E q1 382 (fun _ => 0), iA E q2 382 (fun _ => 0), iA E q3 382 (fun _ => 0), bA E q4 260 (fun _ => 0), iA E q5 260 (fun _ => 0), iA E q6 260 (fun _ => 0)]) rfl ?_
  refine x_wide (k := 6) (n := 1926) (Nat.le_refl _) (Nat.le_refl _) ?_
  refine x_putF C (ci := 11) (k := 15) (ty := .array .int) (ws1 := [ob h 11 [.ref q1, .ref q2, .ref q3, .ref q4, .int 0, .int 0, .int 0, .int 0, .int 0, .int 0, .int 0, .int 0, .int 0, .int 0, .ref q5, .ref q6, .null, .null, .null, .null, .null, .null, .null, .null, .null, .null, .null, .int 0, .null, .null, .null, .null, .int 0, .int 0, .int 0, .int 0, .int 0, .int 0, .null, .null, .null, .null, .null, .null, .null, .null, .null, .int 0], iA E q1 382 (fun _ => 0), iA E q2 382 (fun _ => 0), iA E q3 382 (fun _ => 0), bA E q4 260 (fun _ => 0), iA E q5 260 (fun _ => 0), iA E q6 260 (fun _ => 0)]) hin 0 rfl rfl in_X12 tyX12 tyX12_ok nmX12 (by decide) w_1133 rfl rfl rfl rfl rfl (Nat.le_of_ble_eq_true rfl) rfl dX12_init_55 rfl ?_
  refine x_aload_n C dX12_init_58 rfl 0 rfl rfl ?_
  refine x_bipush C (v := 16) dX12_init_59 (by decide) rfl ?_
  refine x_newi C 16 w_55 (by decide) (by decide) (by decide) (Nat.le_of_ble_eq_true rfl) (Nat.le_of_ble_eq_true rfl) dX12_init_61 rfl (fun q7 => ?_)
  refine x_ws (ws1 := [ob h 11 [.ref q1, .ref q2, .ref q3, .ref q4, .int 0, .int 0, .int 0, .int 0, .int 0, .int 0, .int 0, .int 0, .int 0, .int 0, .ref q5, .ref q6, .null, .null, .null, .null, .null, .null, .null, .null, .null, .null, .null, .int 0, .null, .null, .null, .null, .int 0, .int 0, .int 0, .int 0, .int 0, .int 0, .null, .null, .null, .null, .null, .null, .null, .null, .null, .int 0], iA E q1 382 (fun _ => 0), iA E q2 382 (fun _ => 0), iA E q3 382 (fun _ => 0), bA E q4 260 (fun _ => 0), iA E q5 260 (fun _ => 0), iA E q6 260 (fun _ => 0), iA E q7 16 (fun _ => 0)]) rfl ?_
  refine x_wide (k := 7) (n := 1942) (Nat.le_refl _) (Nat.le_refl _) ?_
  refine x_putF C (ci := 11) (k := 16) (ty := .array .int) (ws1 := [ob h 11 [.ref q1, .ref q2, .ref q3, .ref q4, .int 0, .int 0, .int 0, .int 0, .int 0, .int 0, .int 0, .int 0, .int 0, .int 0, .ref q5, .ref q6, .ref q7, .null, .null, .null, .null, .null, .null, .null, .null, .null, .null, .int 0, .null, .null, .null, .null, .int 0, .int 0, .int 0, .int 0, .int 0, .int 0, .null, .null, .null, .null, .null, .null, .null, .null, .null, .int 0], iA E q1 382 (fun _ => 0), iA E q2 382 (fun _ => 0), iA E q3 382 (fun _ => 0), bA E q4 260 (fun _ => 0), iA E q5 260 (fun _ => 0), iA E q6 260 (fun _ => 0), iA E q7 16 (fun _ => 0)]) hin 0 rfl rfl in_X12 tyX12 tyX12_ok nmX12 (by decide) w_1134 rfl rfl rfl rfl rfl (Nat.le_of_ble_eq_true rfl) rfl dX12_init_63 rfl ?_
  refine x_aload_n C dX12_init_66 rfl 0 rfl rfl ?_
  refine x_bipush C (v := 16) dX12_init_67 (by decide) rfl ?_
  refine x_newi C 16 w_55 (by decide) (by decide) (by decide) (Nat.le_of_ble_eq_true rfl) (Nat.le_of_ble_eq_true rfl) dX12_init_69 rfl (fun q8 => ?_)
  refine x_ws (ws1 := [ob h 11 [.ref q1, .ref q2, .ref q3, .ref q4, .int 0, .int 0, .int 0, .int 0, .int 0, .int 0, .int 0, .int 0, .int 0, .int 0, .ref q5, .ref q6, .ref q7, .null, .null, .null, .null, .null, .null, .null, .null, .null, .null, .int 0, .null, .null, .null, .null, .int 0, .int 0, .int 0, .int 0, .int 0, .int 0, .null, .null, .null, .null, .null, .null, .null, .null, .null, .int 0], iA E q1 382 (fun _ => 0), iA E q2 382 (fun _ => 0), iA E q3 382 (fun _ => 0), bA E q4 260 (fun _ => 0), iA E q5 260 (fun _ => 0), iA E q6 260 (fun _ => 0), iA E q7 16 (fun _ => 0), iA E q8 16 (fun _ => 0)]) rfl ?_
  refine x_wide (k := 8) (n := 1958) (Nat.le_refl _) (Nat.le_refl _) ?_
  refine x_putF C (ci := 11) (k := 17) (ty := .array .int) (ws1 := [ob h 11 [.ref q1, .ref q2, .ref q3, .ref q4, .int 0, .int 0, .int 0, .int 0, .int 0, .int 0, .int 0, .int 0, .int 0, .int 0, .ref q5, .ref q6, .ref q7, .ref q8, .null, .null, .null, .null, .null, .null, .null, .null, .null, .int 0, .null, .null, .null, .null, .int 0, .int 0, .int 0, .int 0, .int 0, .int 0, .null, .null, .null, .null, .null, .null, .null, .null, .null, .int 0], iA E q1 382 (fun _ => 0), iA E q2 382 (fun _ => 0), iA E q3 382 (fun _ => 0), bA E q4 260 (fun _ => 0), iA E q5 260 (fun _ => 0), iA E q6 260 (fun _ => 0), iA E q7 16 (fun _ => 0), iA E q8 16 (fun _ => 0)]) hin 0 rfl rfl in_X12 tyX12 tyX12_ok nmX12 (by decide) w_1135 rfl rfl rfl rfl rfl (Nat.le_of_ble_eq_true rfl) rfl dX12_init_71 rfl ?_
  refine x_aload_n C dX12_init_74 rfl 0 rfl rfl ?_
  refine x_bipush C (v := 16) dX12_init_75 (by decide) rfl ?_
  refine x_newi C 16 w_55 (by decide) (by decide) (by decide) (Nat.le_of_ble_eq_true rfl) (Nat.le_of_ble_eq_true rfl) dX12_init_77 rfl (fun q9 => ?_)
  refine x_ws (ws1 := [ob h 11 [.ref q1, .ref q2, .ref q3, .ref q4, .int 0, .int 0, .int 0, .int 0, .int 0, .int 0, .int 0, .int 0, .int 0, .int 0, .ref q5, .ref q6, .ref q7, .ref q8, .null, .null, .null, .null, .null, .null, .null, .null, .null, .int 0, .null, .null, .null, .null, .int 0, .int 0, .int 0, .int 0, .int 0, .int 0, .null, .null, .null, .null, .null, .null, .null, .null, .null, .int 0], iA E q1 382 (fun _ => 0), iA E q2 382 (fun _ => 0), iA E q3 382 (fun _ => 0), bA E q4 260 (fun _ => 0), iA E q5 260 (fun _ => 0), iA E q6 260 (fun _ => 0), iA E q7 16 (fun _ => 0), iA E q8 16 (fun _ => 0), iA E q9 16 (fun _ => 0)]) rfl ?_
  refine x_wide (k := 9) (n := 1974) (Nat.le_refl _) (Nat.le_refl _) ?_
  refine x_putF C (ci := 11) (k := 18) (ty := .array .int) (ws1 := [ob h 11 [.ref q1, .ref q2, .ref q3, .ref q4, .int 0, .int 0, .int 0, .int 0, .int 0, .int 0, .int 0, .int 0, .int 0, .int 0, .ref q5, .ref q6, .ref q7, .ref q8, .ref q9, .null, .null, .null, .null, .null, .null, .null, .null, .int 0, .null, .null, .null, .null, .int 0, .int 0, .int 0, .int 0, .int 0, .int 0, .null, .null, .null, .null, .null, .null, .null, .null, .null, .int 0], iA E q1 382 (fun _ => 0), iA E q2 382 (fun _ => 0), iA E q3 382 (fun _ => 0), bA E q4 260 (fun _ => 0), iA E q5 260 (fun _ => 0), iA E q6 260 (fun _ => 0), iA E q7 16 (fun _ => 0), iA E q8 16 (fun _ => 0), iA E q9 16 (fun _ => 0)]) hin 0 rfl rfl in_X12 tyX12 tyX12_ok nmX12 (by decide) w_1136 rfl rfl rfl rfl rfl (Nat.le_of_ble_eq_true rfl) rfl dX12_init_79 rfl ?_
  refine x_aload_n C dX12_init_82 rfl 0 rfl rfl ?_
  refine x_bipush C (v := 16) dX12_init_83 (by decide) rfl ?_
  refine x_newi C 16 w_55 (by decide) (by decide) (by decide) (Nat.le_of_ble_eq_true rfl) (Nat.le_of_ble_eq_true rfl) dX12_init_85 rfl (fun q10 => ?_)
  refine x_ws (ws1 := [ob h 11 [.ref q1, .ref q2, .ref q3, .ref q4, .int 0, .int 0, .int 0, .int 0, .int 0, .int 0, .int 0, .int 0, .int 0, .int 0, .ref q5, .ref q6, .ref q7, .ref q8, .ref q9, .null, .null, .null, .null, .null, .null, .null, .null, .int 0, .null, .null, .null, .null, .int 0, .int 0, .int 0, .int 0, .int 0, .int 0, .null, .null, .null, .null, .null, .null, .null, .null, .null, .int 0], iA E q1 382 (fun _ => 0), iA E q2 382 (fun _ => 0), iA E q3 382 (fun _ => 0), bA E q4 260 (fun _ => 0), iA E q5 260 (fun _ => 0), iA E q6 260 (fun _ => 0), iA E q7 16 (fun _ => 0), iA E q8 16 (fun _ => 0), iA E q9 16 (fun _ => 0), iA E q10 16 (fun _ => 0)]) rfl ?_
  refine x_wide (k := 10) (n := 1990) (Nat.le_refl _) (Nat.le_refl _) ?_
  refine x_putF C (ci := 11) (k := 19) (ty := .array .int) (ws1 := [ob h 11 [.ref q1, .ref q2, .ref q3, .ref q4, .int 0, .int 0, .int 0, .int 0, .int 0, .int 0, .int 0, .int 0, .int 0, .int 0, .ref q5, .ref q6, .ref q7, .ref q8, .ref q9, .ref q10, .null, .null, .null, .null, .null, .null, .null, .int 0, .null, .null, .null, .null, .int 0, .int 0, .int 0, .int 0, .int 0, .int 0, .null, .null, .null, .null, .null, .null, .null, .null, .null, .int 0], iA E q1 382 (fun _ => 0), iA E q2 382 (fun _ => 0), iA E q3 382 (fun _ => 0), bA E q4 260 (fun _ => 0), iA E q5 260 (fun _ => 0), iA E q6 260 (fun _ => 0), iA E q7 16 (fun _ => 0), iA E q8 16 (fun _ => 0), iA E q9 16 (fun _ => 0), iA E q10 16 (fun _ => 0)]) hin 0 rfl rfl in_X12 tyX12 tyX12_ok nmX12 (by decide) w_1137 rfl rfl rfl rfl rfl (Nat.le_of_ble_eq_true rfl) rfl dX12_init_87 rfl ?_
  refine x_aload_n C dX12_init_90 rfl 0 rfl rfl ?_
  refine x_sipush C (v := 260) dX12_init_91 (by decide) rfl ?_
  refine x_newi C 260 w_55 (by decide) (by decide) (by decide) (Nat.le_of_ble_eq_true rfl) (Nat.le_of_ble_eq_true rfl) dX12_init_94 rfl (fun q11 => ?_)
  refine x_ws (ws1 := [ob h 11 [.ref q1, .ref q2, .ref q3, .ref q4, .int 0, .int 0, .int 0, .int 0, .int 0, .int 0, .int 0, .int 0, .int 0, .int 0, .ref q5, .ref q6, .ref q7, .ref q8, .ref q9, .ref q10, .null, .null, .null, .null, .null, .null, .null, .int 0, .null, .null, .null, .null, .int 0, .int 0, .int 0, .int 0, .int 0, .int 0, .null, .null, .null, .null, .null, .null, .null, .null, .null, .int 0], iA E q1 382 (fun _ => 0), iA E q2 382 (fun _ => 0), iA E q3 382 (fun _ => 0), bA E q4 260 (fun _ => 0), iA E q5 260 (fun _ => 0), iA E q6 260 (fun _ => 0), iA E q7 16 (fun _ => 0), iA E q8 16 (fun _ => 0), iA E q9 16 (fun _ => 0), iA E q10 16 (fun _ => 0), iA E q11 260 (fun _ => 0)]) rfl ?_
  refine x_wide (k := 11) (n := 2250) (Nat.le_refl _) (Nat.le_refl _) ?_
  refine x_putF C (ci := 11) (k := 20) (ty := .array .int) (ws1 := [ob h 11 [.ref q1, .ref q2, .ref q3, .ref q4, .int 0, .int 0, .int 0, .int 0, .int 0, .int 0, .int 0, .int 0, .int 0, .int 0, .ref q5, .ref q6, .ref q7, .ref q8, .ref q9, .ref q10, .ref q11, .null, .null, .null, .null, .null, .null, .int 0, .null, .null, .null, .null, .int 0, .int 0, .int 0, .int 0, .int 0, .int 0, .null, .null, .null, .null, .null, .null, .null, .null, .null, .int 0], iA E q1 382 (fun _ => 0), iA E q2 382 (fun _ => 0), iA E q3 382 (fun _ => 0), bA E q4 260 (fun _ => 0), iA E q5 260 (fun _ => 0), iA E q6 260 (fun _ => 0), iA E q7 16 (fun _ => 0), iA E q8 16 (fun _ => 0), iA E q9 16 (fun _ => 0), iA E q10 16 (fun _ => 0), iA E q11 260 (fun _ => 0)]) hin 0 rfl rfl in_X12 tyX12 tyX12_ok nmX12 (by decide) w_1138 rfl rfl rfl rfl rfl (Nat.le_of_ble_eq_true rfl) rfl dX12_init_96 rfl ?_
  refine x_aload_n C dX12_init_99 rfl 0 rfl rfl ?_
  refine x_bipush C (v := 16) dX12_init_100 (by decide) rfl ?_
  refine x_newi C 16 w_55 (by decide) (by decide) (by decide) (Nat.le_of_ble_eq_true rfl) (Nat.le_of_ble_eq_true rfl) dX12_init_102 rfl (fun q12 => ?_)
  refine x_ws (ws1 := [ob h 11 [.ref q1, .ref q2, .ref q3, .ref q4, .int 0, .int 0, .int 0, .int 0, .int 0, .int 0, .int 0, .int 0, .int 0, .int 0, .ref q5, .ref q6, .ref q7, .ref q8, .ref q9, .ref q10, .ref q11, .null, .null, .null, .null, .null, .null, .int 0, .null, .null, .null, .null, .int 0, .int 0, .int 0, .int 0, .int 0, .int 0, .null, .null, .null, .null, .null, .null, .null, .null, .null, .int 0], iA E q1 382 (fun _ => 0), iA E q2 382 (fun _ => 0), iA E q3 382 (fun _ => 0), bA E q4 260 (fun _ => 0), iA E q5 260 (fun _ => 0), iA E q6 260 (fun _ => 0), iA E q7 16 (fun _ => 0), iA E q8 16 (fun _ => 0), iA E q9 16 (fun _ => 0), iA E q10 16 (fun _ => 0), iA E q11 260 (fun _ => 0), iA E q12 16 (fun _ => 0)]) rfl ?_
  refine x_wide (k := 12) (n := 2266) (Nat.le_refl _) (Nat.le_refl _) ?_
  refine x_putF C (ci := 11) (k := 21) (ty := .array .int) (ws1 := [ob h 11 [.ref q1, .ref q2, .ref q3, .ref q4, .int 0, .int 0, .int 0, .int 0, .int 0, .int 0, .int 0, .int 0, .int 0, .int 0, .ref q5, .ref q6, .ref q7, .ref q8, .ref q9, .ref q10, .ref q11, .ref q12, .null, .null, .null, .null, .null, .int 0, .null, .null, .null, .null, .int 0, .int 0, .int 0, .int 0, .int 0, .int 0, .null, .null, .null, .null, .null, .null, .null, .null, .null, .int 0], iA E q1 382 (fun _ => 0), iA E q2 382 (fun _ => 0), iA E q3 382 (fun _ => 0), bA E q4 260 (fun _ => 0), iA E q5 260 (fun _ => 0), iA E q6 260 (fun _ => 0), iA E q7 16 (fun _ => 0), iA E q8 16 (fun _ => 0), iA E q9 16 (fun _ => 0), iA E q10 16 (fun _ => 0), iA E q11 260 (fun _ => 0), iA E q12 16 (fun _ => 0)]) hin 0 rfl rfl in_X12 tyX12 tyX12_ok nmX12 (by decide) w_1139 rfl rfl rfl rfl rfl (Nat.le_of_ble_eq_true rfl) rfl dX12_init_104 rfl ?_
  refine x_aload_n C dX12_init_107 rfl 0 rfl rfl ?_
  refine x_bipush C (v := 16) dX12_init_108 (by decide) rfl ?_
  refine x_newi C 16 w_55 (by decide) (by decide) (by decide) (Nat.le_of_ble_eq_true rfl) (Nat.le_of_ble_eq_true rfl) dX12_init_110 rfl (fun q13 => ?_)
  refine x_ws (ws1 := [ob h 11 [.ref q1, .ref q2, .ref q3, .ref q4, .int 0, .int 0, .int 0, .int 0, .int 0, .int 0, .int 0, .int 0, .int 0, .int 0, .ref q5, .ref q6, .ref q7, .ref q8, .ref q9, .ref q10, .ref q11, .ref q12, .null, .null, .null, .null, .null, .int 0, .null, .null, .null, .null, .int 0, .int 0, .int 0, .int 0, .int 0, .int 0, .null, .null, .null, .null, .null, .null, .null, .null, .null, .int 0], iA E q1 382 (fun _ => 0), iA E q2 382 (fun _ => 0), iA E q3 382 (fun _ => 0), bA E q4 260 (fun _ => 0), iA E q5 260 (fun _ => 0), iA E q6 260 (fun _ => 0), iA E q7 16 (fun _ => 0), iA E q8 16 (fun _ => 0), iA E q9 16 (fun _ => 0), iA E q10 16 (fun _ => 0), iA E q11 260 (fun _ => 0), iA E q12 16 (fun _ => 0), iA E q13 16 (fun _ => 0)]) rfl ?_
  refine x_wide (k := 13) (n := 2282) (Nat.le_refl _) (Nat.le_refl _) ?_
  refine x_putF C (ci := 11) (k := 22) (ty := .array .int) (ws1 := [ob h 11 [.ref q1, .ref q2, .ref q3, .ref q4, .int 0, .int 0, .int 0, .int 0, .int 0, .int 0, .int 0, .int 0, .int 0, .int 0, .ref q5, .ref q6, .ref q7, .ref q8, .ref q9, .ref q10, .ref q11, .ref q12, .ref q13, .null, .null, .null, .null, .int 0, .null, .null, .null, .null, .int 0, .int 0, .int 0, .int 0, .int 0, .int 0, .null, .null, .null, .null, .null, .null, .null, .null, .null, .int 0], iA E q1 382 (fun _ => 0), iA E q2 382 (fun _ => 0), iA E q3 382 (fun _ => 0), bA E q4 260 (fun _ => 0), iA E q5 260 (fun _ => 0), iA E q6 260 (fun _ => 0), iA E q7 16 (fun _ => 0), iA E q8 16 (fun _ => 0), iA E q9 16 (fun _ => 0), iA E q10 16 (fun _ => 0), iA E q11 260 (fun _ => 0), iA E q12 16 (fun _ => 0), iA E q13 16 (fun _ => 0)]) hin 0 rfl rfl in_X12 tyX12 tyX12_ok nmX12 (by decide) w_1140 rfl rfl rfl rfl rfl (Nat.le_of_ble_eq_true rfl) rfl dX12_init_112 rfl ?_
  refine x_aload_n C dX12_init_115 rfl 0 rfl rfl ?_
  refine x_bipush C (v := 16) dX12_init_116 (by decide) rfl ?_
  refine x_newi C 16 w_55 (by decide) (by decide) (by decide) (Nat.le_of_ble_eq_true rfl) (Nat.le_of_ble_eq_true rfl) dX12_init_118 rfl (fun q14 => ?_)
  refine x_ws (ws1 := [ob h 11 [.ref q1, .ref q2, .ref q3, .ref q4, .int 0, .int 0, .int 0, .int 0, .int 0, .int 0, .int 0, .int 0, .int 0, .int 0, .ref q5, .ref q6, .ref q7, .ref q8, .ref q9, .ref q10, .ref q11, .ref q12, .ref q13, .null, .null, .null, .null, .int 0, .null, .null, .null, .null, .int 0, .int 0, .int 0, .int 0, .int 0, .int 0, .null, .null, .null, .null, .null, .null, .null, .null, .null, .int 0], iA E q1 382 (fun _ => 0), iA E q2 382 (fun _ => 0), iA E q3 382 (fun _ => 0), bA E q4 260 (fun _ => 0), iA E q5 260 (fun _ => 0), iA E q6 260 (fun _ => 0), iA E q7 16 (fun _ => 0), iA E q8 16 (fun _ => 0), iA E q9 16 (fun _ => 0), iA E q10 16 (fun _ => 0), iA E q11 260 (fun _ => 0), iA E q12 16 (fun _ => 0), iA E q13 16 (fun _ => 0), iA E q14 16 (fun _ => 0)]) rfl ?_
  refine x_wide (k := 14) (n := 2298) (Nat.le_refl _) (Nat.le_refl _) ?_
  refine x_putF C (ci := 11) (k := 23) (ty := .array .int) (ws1 := [ob h 11 [.ref q1, .ref q2, .ref q3, .ref q4, .int 0, .int 0, .int 0, .int 0, .int 0, .int 0, .int 0, .int 0, .int 0, .int 0, .ref q5, .ref q6, .ref q7, .ref q8, .ref q9, .ref q10, .ref q11, .ref q12, .ref q13, .ref q14, .null, .null, .null, .int 0, .null, .null, .null, .null, .int 0, .int 0, .int 0, .int 0, .int 0, .int 0, .null, .null, .null, .null, .null, .null, .null, .null, .null, .int 0], iA E q1 382 (fun _ => 0), iA E q2 382 (fun _ => 0), iA E q3 382 (fun _ => 0), bA E q4 260 (fun _ => 0), iA E q5 260 (fun _ => 0), iA E q6 260 (fun _ => 0), iA E q7 16 (fun _ => 0), iA E q8 16 (fun _ => 0), iA E q9 16 (fun _ => 0), iA E q10 16 (fun _ => 0), iA E q11 260 (fun _ => 0), iA E q12 16 (fun _ => 0), iA E q13 16 (fun _ => 0), iA E q14 16 (fun _ => 0)]) hin 0 rfl rfl in_X12 tyX12 tyX12_ok nmX12 (by decide) w_1141 rfl rfl rfl rfl rfl (Nat.le_of_ble_eq_true rfl) rfl dX12_init_120 rfl ?_
  refine x_aload_n C dX12_init_123 rfl 0 rfl rfl ?_
  refine x_bipush C (v := 16) dX12_init_124 (by decide) rfl ?_
  refine x_newi C 16 w_55 (by decide) (by decide) (by decide) (Nat.le_of_ble_eq_true rfl) (Nat.le_of_ble_eq_true rfl) dX12_init_126 rfl (fun q15 => ?_)
  refine x_ws (ws1 := [ob h 11 [.ref q1, .ref q2, .ref q3, .ref q4, .int 0, .int 0, .int 0, .int 0, .int 0, .int 0, .int 0, .int 0, .int 0, .int 0, .ref q5, .ref q6, .ref q7, .ref q8, .ref q9, .ref q10, .ref q11, .ref q12, .ref q13, .ref q14, .null, .null, .null, .int 0, .null, .null, .null, .null, .int 0, .int 0, .int 0, .int 0, .int 0, .int 0, .null, .null, .null, .null, .null, .null, .null, .null, .null, .int 0], iA E q1 382 (fun _ => 0), iA E q2 382 (fun _ => 0), iA E q3 382 (fun _ => 0), bA E q4 260 (fun _ => 0), iA E q5 260 (fun _ => 0), iA E q6 260 (fun _ => 0), iA E q7 16 (fun _ => 0), iA E q8 16 (fun _ => 0), iA E q9 16 (fun _ => 0), iA E q10 16 (fun _ => 0), iA E q11 260 (fun _ => 0), iA E q12 16 (fun _ => 0), iA E q13 16 (fun _ => 0), iA E q14 16 (fun _ => 0), iA E q15 16 (fun _ => 0)]) rfl ?_
  refine x_wide (k := 15) (n := 2314) (Nat.le_refl _) (Nat.le_refl _) ?_
  refine x_putF C (ci := 11) (k := 24) (ty := .array .int) (ws1 := [ob h 11 [.ref q1, .ref q2, .ref q3, .ref q4, .int 0, .int 0, .int 0, .int 0, .int 0, .int 0, .int 0, .int 0, .int 0, .int 0, .ref q5, .ref q6, .ref q7, .ref q8, .ref q9, .ref q10, .ref q11, .ref q12, .ref q13, .ref q14, .ref q15, .null, .null, .int 0, .null, .null, .null, .null, .int 0, .int 0, .int 0, .int 0, .int 0, .int 0, .null, .null, .null, .null, .null, .null, .null, .null, .null, .int 0], iA E q1 382 (fun _ => 0), iA E q2 382 (fun _ => 0), iA E q3 382 (fun _ => 0), bA E q4 260 (fun _ => 0), iA E q5 260 (fun _ => 0), iA E q6 260 (fun _ => 0), iA E q7 16 (fun _ => 0), iA E q8 16 (fun _ => 0), iA E q9 16 (fun _ => 0), iA E q10 16 (fun _ => 0), iA E q11 260 (fun _ => 0), iA E q12 16 (fun _ => 0), iA E q13 16 (fun _ => 0), iA E q14 16 (fun _ => 0), iA E q15 16 (fun _ => 0)]) hin 0 rfl rfl in_X12 tyX12 tyX12_ok nmX12 (by decide) w_1142 rfl rfl rfl rfl rfl (Nat.le_of_ble_eq_true rfl) rfl dX12_init_128 rfl ?_
  refine x_aload_n C dX12_init_131 rfl 0 rfl rfl ?_
  refine x_sipush C (v := 260) dX12_init_132 (by decide) rfl ?_
  refine x_newi C 260 w_55 (by decide) (by decide) (by decide) (Nat.le_of_ble_eq_true rfl) (Nat.le_of_ble_eq_true rfl) dX12_init_135 rfl (fun q16 => ?_)
  refine x_ws (ws1 := [ob h 11 [.ref q1, .ref q2, .ref q3, .ref q4, .int 0, .int 0, .int 0, .int 0, .int 0, .int 0, .int 0, .int 0, .int 0, .int 0, .ref q5, .ref q6, .ref q7, .ref q8, .ref q9, .ref q10, .ref q11, .ref q12, .ref q13, .ref q14, .ref q15, .null, .null, .int 0, .null, .null, .null, .null, .int 0, .int 0, .int 0, .int 0, .int 0, .int 0, .null, .null, .null, .null, .null, .null, .null, .null, .null, .int 0], iA E q1 382 (fun _ => 0), iA E q2 382 (fun _ => 0), iA E q3 382 (fun _ => 0), bA E q4 260 (fun _ => 0), iA E q5 260 (fun _ => 0), iA E q6 260 (fun _ => 0), iA E q7 16 (fun _ => 0), iA E q8 16 (fun _ => 0), iA E q9 16 (fun _ => 0), iA E q10 16 (fun _ => 0), iA E q11 260 (fun _ => 0), iA E q12 16 (fun _ => 0), iA E q13 16 (fun _ => 0), iA E q14 16 (fun _ => 0), iA E q15 16 (fun _ => 0), iA E q16 260 (fun _ => 0)]) rfl ?_
  refine x_wide (k := 16) (n := 2574) (Nat.le_refl _) (Nat.le_refl _) ?_
  refine x_putF C (ci := 11) (k := 25) (ty := .array .int) (ws1 := [ob h 11 [.ref q1, .ref q2, .ref q3, .ref q4, .int 0, .int 0, .int 0, .int 0, .int 0, .int 0, .int 0, .int 0, .int 0, .int 0, .ref q5, .ref q6, .ref q7, .ref q8, .ref q9, .ref q10, .ref q11, .ref q12, .ref q13, .ref q14, .ref q15, .ref q16, .null, .int 0, .null, .null, .null, .null, .int 0, .int 0, .int 0, .int 0, .int 0, .int 0, .null, .null, .null, .null, .null, .null, .null, .null, .null, .int 0], iA E q1 382 (fun _ => 0), iA E q2 382 (fun _ => 0), iA E q3 382 (fun _ => 0), bA E q4 260 (fun _ => 0), iA E q5 260 (fun _ => 0), iA E q6 260 (fun _ => 0), iA E q7 16 (fun _ => 0), iA E q8 16 (fun _ => 0), iA E q9 16 (fun _ => 0), iA E q10 16 (fun _ => 0), iA E q11 260 (fun _ => 0), iA E q12 16 (fun _ => 0), iA E q13 16 (fun _ => 0), iA E q14 16 (fun _ => 0), iA E q15 16 (fun _ => 0), iA E q16 260 (fun _ => 0)]) hin 0 rfl rfl in_X12 tyX12 tyX12_ok nmX12 (by decide) w_1143 rfl rfl rfl rfl rfl (Nat.le_of_ble_eq_true rfl) rfl dX12_init_137 rfl ?_
  refine x_aload_n C dX12_init_140 rfl 0 rfl rfl ?_
  refine x_bipush C (v := 11) dX12_init_141 (by decide) rfl ?_
  refine x_newi C 11 w_55 (by decide) (by decide) (by decide) (Nat.le_of_ble_eq_true rfl) (Nat.le_of_ble_eq_true rfl) dX12_init_143 rfl (fun q17 => ?_)
  refine x_ws (ws1 := [ob h 11 [.ref q1, .ref q2, .ref q3, .ref q4, .int 0, .int 0, .int 0, .int 0, .int 0, .int 0, .int 0, .int 0, .int 0, .int 0, .ref q5, .ref q6, .ref q7, .ref q8, .ref q9, .ref q10, .ref q11, .ref q12, .ref q13, .ref q14, .ref q15, .ref q16, .null, .int 0, .null, .null, .null, .null, .int 0, .int 0, .int 0, .int 0, .int 0, .int 0, .null, .null, .null, .null, .null, .null, .null, .null, .null, .int 0], iA E q1 382 (fun _ => 0), iA E q2 382 (fun _ => 0), iA E q3 382 (fun _ => 0), bA E q4 260 (fun _ => 0), iA E q5 260 (fun _ => 0), iA E q6 260 (fun _ => 0), iA E q7 16 (fun _ => 0), iA E q8 16 (fun _ => 0), iA E q9 16 (fun _ => 0), iA E q10 16 (fun _ => 0), iA E q11 260 (fun _ => 0), iA E q12 16 (fun _ => 0), iA E q13 16 (fun _ => 0), iA E q14 16 (fun _ => 0), iA E q15 16 (fun _ => 0), iA E q16 260 (fun _ => 0), iA E q17 11 (fun _ => 0)]) rfl ?_
  refine x_wide (k := 17) (n := 2585) (Nat.le_refl _) (Nat.le_refl _) ?_
  refine x_putF C (ci := 11) (k := 26) (ty := .array .int) (ws1 := [ob h 11 [.ref q1, .ref q2, .ref q3, .ref q4, .int 0, .int 0, .int 0, .int 0, .int 0, .int 0, .int 0, .int 0, .int 0, .int 0, .ref q5, .ref q6, .ref q7, .ref q8, .ref q9, .ref q10, .ref q11, .ref q12, .ref q13, .ref q14, .ref q15, .ref q16, .ref q17, .int 0, .null, .null, .null, .null, .int 0, .int 0, .int 0, .int 0, .int 0, .int 0, .null, .null, .null, .null, .null, .null, .null, .null, .null, .int 0], iA E q1 382 (fun _ => 0), iA E q2 382 (fun _ => 0), iA E q3 382 (fun _ => 0), bA E q4 260 (fun _ => 0), iA E q5 260 (fun _ => 0), iA E q6 260 (fun _ => 0), iA E q7 16 (fun _ => 0), iA E q8 16 (fun _ => 0), iA E q9 16 (fun _ => 0), iA E q10 16 (fun _ => 0), iA E q11 260 (fun _ => 0), iA E q12 16 (fun _ => 0), iA E q13 16 (fun _ => 0), iA E q14 16 (fun _ => 0), iA E q15 16 (fun _ => 0), iA E q16 260 (fun _ => 0), iA E q17 11 (fun _ => 0)]) hin 0 rfl rfl in_X12 tyX12 tyX12_ok nmX12 (by decide) w_1144 rfl rfl rfl rfl rfl (Nat.le_of_ble_eq_true rfl) rfl dX12_init_145 rfl ?_
  refine x_aload_n C dX12_init_148 rfl 0 rfl rfl ?_
  refine x_bipush C (v := 25) dX12_init_149 (by decide) rfl ?_
  refine x_newi C 25 w_55 (by decide) (by decide) (by decide) (Nat.le_of_ble_eq_true rfl) (Nat.le_of_ble_eq_true rfl) dX12_init_151 rfl (fun q18 => ?_)
  refine x_ws (ws1 := [ob h 11 [.ref q1, .ref q2, .ref q3, .ref q4, .int 0, .int 0, .int 0, .int 0, .int 0, .int 0, .int 0, .int 0, .int 0, .int 0, .ref q5, .ref q6, .ref q7, .ref q8, .ref q9, .ref q10, .ref q11, .ref q12, .ref q13, .ref q14, .ref q15, .ref q16, .ref q17, .int 0, .null, .null, .null, .null, .int 0, .int 0, .int 0, .int 0, .int 0, .int 0, .null, .null, .null, .null, .null, .null, .null, .null, .null, .int 0], iA E q1 382 (fun _ => 0), iA E q2 382 (fun _ => 0), iA E q3 382 (fun _ => 0), bA E q4 260 (fun _ => 0), iA E q5 260 (fun _ => 0), iA E q6 260 (fun _ => 0), iA E q7 16 (fun _ => 0), iA E q8 16 (fun _ => 0), iA E q9 16 (fun _ => 0), iA E q10 16 (fun _ => 0), iA E q11 260 (fun _ => 0), iA E q12 16 (fun _ => 0), iA E q13 16 (fun _ => 0), iA E q14 16 (fun _ => 0), iA E q15 16 (fun _ => 0), iA E q16 260 (fun _ => 0), iA E q17 11 (fun _ => 0), iA E q18 25 (fun _ => 0)]) rfl ?_
  refine x_wide (k := 18) (n := 2610) (Nat.le_refl _) (Nat.le_refl _) ?_
  refine x_putF C (ci := 11) (k := 28) (ty := .array .int) (ws1 := [ob h 11 [.ref q1, .ref q2, .ref q3, .ref q4, .int 0, .int 0, .int 0, .int 0, .int 0, .int 0, .int 0, .int 0, .int 0, .int 0, .ref q5, .ref q6, .ref q7, .ref q8, .ref q9, .ref q10, .ref q11, .ref q12, .ref q13, .ref q14, .ref q15, .ref q16, .ref q17, .int 0, .ref q18, .null, .null, .null, .int 0, .int 0, .int 0, .int 0, .int 0, .int 0, .null, .null, .null, .null, .null, .null, .null, .null, .null, .int 0], iA E q1 382 (fun _ => 0), iA E q2 382 (fun _ => 0), iA E q3 382 (fun _ => 0), bA E q4 260 (fun _ => 0), iA E q5 260 (fun _ => 0), iA E q6 260 (fun _ => 0), iA E q7 16 (fun _ => 0), iA E q8 16 (fun _ => 0), iA E q9 16 (fun _ => 0), iA E q10 16 (fun _ => 0), iA E q11 260 (fun _ => 0), iA E q12 16 (fun _ => 0), iA E q13 16 (fun _ => 0), iA E q14 16 (fun _ => 0), iA E q15 16 (fun _ => 0), iA E q16 260 (fun _ => 0), iA E q17 11 (fun _ => 0), iA E q18 25 (fun _ => 0)]) hin 0 rfl rfl in_X12 tyX12 tyX12_ok nmX12 (by decide) w_1146 rfl rfl rfl rfl rfl (Nat.le_of_ble_eq_true rfl) rfl dX12_init_153 rfl ?_
  refine x_aload_n C dX12_init_156 rfl 0 rfl rfl ?_
  refine x_bipush C (v := 24) dX12_init_157 (by decide) rfl ?_
  refine x_newi C 24 w_55 (by decide) (by decide) (by decide) (Nat.le_of_ble_eq_true rfl) (Nat.le_of_ble_eq_true rfl) dX12_init_159 rfl (fun q19 => ?_)
  refine x_ws (ws1 := [ob h 11 [.ref q1, .ref q2, .ref q3, .ref q4, .int 0, .int 0, .int 0, .int 0, .int 0, .int 0, .int 0, .int 0, .int 0, .int 0, .ref q5, .ref q6, .ref q7, .ref q8, .ref q9, .ref q10, .ref q11, .ref q12, .ref q13, .ref q14, .ref q15, .ref q16, .ref q17, .int 0, .ref q18, .null, .null, .null, .int 0, .int 0, .int 0, .int 0, .int 0, .int 0, .null, .null, .null, .null, .null, .null, .null, .null, .null, .int 0], iA E q1 382 (fun _ => 0), iA E q2 382 (fun _ => 0), iA E q3 382 (fun _ => 0), bA E q4 260 (fun _ => 0), iA E q5 260 (fun _ => 0), iA E q6 260 (fun _ => 0), iA E q7 16 (fun _ => 0), iA E q8 16 (fun _ => 0), iA E q9 16 (fun _ => 0), iA E q10 16 (fun _ => 0), iA E q11 260 (fun _ => 0), iA E q12 16 (fun _ => 0), iA E q13 16 (fun _ => 0), iA E q14 16 (fun _ => 0), iA E q15 16 (fun _ => 0), iA E q16 260 (fun _ => 0), iA E q17 11 (fun _ => 0), iA E q18 25 (fun _ => 0), iA E q19 24 (fun _ => 0)]) rfl ?_
  refine x_wide (k := 19) (n := 2634) (Nat.le_refl _) (Nat.le_refl _) ?_
  refine x_putF C (ci := 11) (k := 29) (ty := .array .int) (ws1 := [ob h 11 [.ref q1, .ref q2, .ref q3, .ref q4, .int 0, .int 0, .int 0, .int 0, .int 0, .int 0, .int 0, .int 0, .int 0, .int 0, .ref q5, .ref q6, .ref q7, .ref q8, .ref q9, .ref q10, .ref q11, .ref q12, .ref q13, .ref q14, .ref q15, .ref q16, .ref q17, .int 0, .ref q18, .ref q19, .null, .null, .int 0, .int 0, .int 0, .int 0, .int 0, .int 0, .null, .null, .null, .null, .null, .null, .null, .null, .null, .int 0], iA E q1 382 (fun _ => 0), iA E q2 382 (fun _ => 0), iA E q3 382 (fun _ => 0), bA E q4 260 (fun _ => 0), iA E q5 260 (fun _ => 0), iA E q6 260 (fun _ => 0), iA E q7 16 (fun _ => 0), iA E q8 16 (fun _ => 0), iA E q9 16 (fun _ => 0), iA E q10 16 (fun _ => 0), iA E q11 260 (fun _ => 0), iA E q12 16 (fun _ => 0), iA E q13 16 (fun _ => 0), iA E q14 16 (fun _ => 0), iA E q15 16 (fun _ => 0), iA E q16 260 (fun _ => 0), iA E q17 11 (fun _ => 0), iA E q18 25 (fun _ => 0), iA E q19 24 (fun _ => 0)]) hin 0 rfl rfl in_X12 tyX12 tyX12_ok nmX12 (by decide) w_1147 rfl rfl rfl rfl rfl (Nat.le_of_ble_eq_true rfl) rfl dX12_init_161 rfl ?_
  refine x_aload_n C dX12_init_164 rfl 0 rfl rfl ?_
  refine x_bipush C (v := 24) dX12_init_165 (by decide) rfl ?_
  refine x_newi C 24 w_55 (by decide) (by decide) (by decide) (Nat.le_of_ble_eq_true rfl) (Nat.le_of_ble_eq_true rfl) dX12_init_167 rfl (fun q20 => ?_)
  refine x_ws (ws1 := [ob h 11 [.ref q1, .ref q2, .ref q3, .ref q4, .int 0, .int 0, .int 0, .int 0, .int 0, .int 0, .int 0, .int 0, .int 0, .int 0, .ref q5, .ref q6, .ref q7, .ref q8, .ref q9, .ref q10, .ref q11, .ref q12, .ref q13, .ref q14, .ref q15, .ref q16, .ref q17, .int 0, .ref q18, .ref q19, .null, .null, .int 0, .int 0, .int 0, .int 0, .int 0, .int 0, .null, .null, .null, .null, .null, .null, .null, .null, .null, .int 0], iA E q1 382 (fun _ => 0), iA E q2 382 (fun _ => 0), iA E q3 382 (fun _ => 0), bA E q4 260 (fun _ => 0), iA E q5 260 (fun _ => 0), iA E q6 260 (fun _ => 0), iA E q7 16 (fun _ => 0), iA E q8 16 (fun _ => 0), iA E q9 16 (fun _ => 0), iA E q10 16 (fun _ => 0), iA E q11 260 (fun _ => 0), iA E q12 16 (fun _ => 0), iA E q13 16 (fun _ => 0), iA E q14 16 (fun _ => 0), iA E q15 16 (fun _ => 0), iA E q16 260 (fun _ => 0), iA E q17 11 (fun _ => 0), iA E q18 25 (fun _ => 0), iA E q19 24 (fun _ => 0), iA E q20 24 (fun _ => 0)]) rfl ?_
  refine x_wide (k := 20) (n := 2658) (Nat.le_refl _) (Nat.le_refl _) ?_
  refine x_putF C (ci := 11) (k := 30) (ty := .array .int) (ws1 := [ob h 11 [.ref q1, .ref q2, .ref q3, .ref q4, .int 0, .int 0, .int 0, .int 0, .int 0, .int 0, .int 0, .int 0, .int 0, .int 0, .ref q5, .ref q6, .ref q7, .ref q8, .ref q9, .ref q10, .ref q11, .ref q12, .ref q13, .ref q14, .ref q15, .ref q16, .ref q17, .int 0, .ref q18, .ref q19, .ref q20, .null, .int 0, .int 0, .int 0, .int 0, .int 0, .int 0, .null, .null, .null, .null, .null, .null, .null, .null, .null, .int 0], iA E q1 382 (fun _ => 0), iA E q2 382 (fun _ => 0), iA E q3 382 (fun _ => 0), bA E q4 260 (fun _ => 0), iA E q5 260 (fun _ => 0), iA E q6 260 (fun _ => 0), iA E q7 16 (fun _ => 0), iA E q8 16 (fun _ => 0), iA E q9 16 (fun _ => 0), iA E q10 16 (fun _ => 0), iA E q11 260 (fun _ => 0), iA E q12 16 (fun _ => 0), iA E q13 16 (fun _ => 0), iA E q14 16 (fun _ => 0), iA E q15 16 (fun _ => 0), iA E q16 260 (fun _ => 0), iA E q17 11 (fun _ => 0), iA E q18 25 (fun _ => 0), iA E q19 24 (fun _ => 0), iA E q20 24 (fun _ => 0)]) hin 0 rfl rfl in_X12 tyX12 tyX12_ok nmX12 (by decide) w_1148 rfl rfl rfl rfl rfl (Nat.le_of_ble_eq_true rfl) rfl dX12_init_169 rfl ?_
  refine x_aload_n C dX12_init_172 rfl 0 rfl rfl ?_
  refine x_sipush C (v := 192) dX12_init_173 (by decide) rfl ?_
  refine x_newi C 192 w_55 (by decide) (by decide) (by decide) (Nat.le_of_ble_eq_true rfl) (Nat.le_of_ble_eq_true rfl) dX12_init_176 rfl (fun q21 => ?_)
  refine x_ws (ws1 := [ob h 11 [.ref q1, .ref q2, .ref q3, .ref q4, .int 0, .int 0, .int 0, .int 0, .int 0, .int 0, .int 0, .int 0, .int 0, .int 0, .ref q5, .ref q6, .ref q7, .ref q8, .ref q9, .ref q10, .ref q11, .ref q12, .ref q13, .ref q14, .ref q15, .ref q16, .ref q17, .int 0, .ref q18, .ref q19, .ref q20, .null, .int 0, .int 0, .int 0, .int 0, .int 0, .int 0, .null, .null, .null, .null, .null, .null, .null, .null, .null, .int 0], iA E q1 382 (fun _ => 0), iA E q2 382 (fun _ => 0), iA E q3 382 (fun _ => 0), bA E q4 260 (fun _ => 0), iA E q5 260 (fun _ => 0), iA E q6 260 (fun _ => 0), iA E q7 16 (fun _ => 0), iA E q8 16 (fun _ => 0), iA E q9 16 (fun _ => 0), iA E q10 16 (fun _ => 0), iA E q11 260 (fun _ => 0), iA E q12 16 (fun _ => 0), iA E q13 16 (fun _ => 0), iA E q14 16 (fun _ => 0), iA E q15 16 (fun _ => 0), iA E q16 260 (fun _ => 0), iA E q17 11 (fun _ => 0), iA E q18 25 (fun _ => 0), iA E q19 24 (fun _ => 0), iA E q20 24 (fun _ => 0), iA E q21 192 (fun _ => 0)]) rfl ?_
  refine x_wide (k := 21) (n := 2850) (Nat.le_refl _) (Nat.le_refl _) ?_
  refine x_putF C (ci := 11) (k := 31) (ty := .array .int) (ws1 := [ob h 11 [.ref q1, .ref q2, .ref q3, .ref q4, .int 0, .int 0, .int 0, .int 0, .int 0, .int 0, .int 0, .int 0, .int 0, .int 0, .ref q5, .ref q6, .ref q7, .ref q8, .ref q9, .ref q10, .ref q11, .ref q12, .ref q13, .ref q14, .ref q15, .ref q16, .ref q17, .int 0, .ref q18, .ref q19, .ref q20, .ref q21, .int 0, .int 0, .int 0, .int 0, .int 0, .int 0, .null, .null, .null, .null, .null, .null, .null, .null, .null, .int 0], iA E q1 382 (fun _ => 0), iA E q2 382 (fun _ => 0), iA E q3 382 (fun _ => 0), bA E q4 260 (fun _ => 0), iA E q5 260 (fun _ => 0), iA E q6 260 (fun _ => 0), iA E q7 16 (fun _ => 0), iA E q8 16 (fun _ => 0), iA E q9 16 (fun _ => 0), iA E q10 16 (fun _ => 0), iA E q11 260 (fun _ => 0), iA E q12 16 (fun _ => 0), iA E q13 16 (fun _ => 0), iA E q14 16 (fun _ => 0), iA E q15 16 (fun _ => 0), iA E q16 260 (fun _ => 0), iA E q17 11 (fun _ => 0), iA E q18 25 (fun _ => 0), iA E q19 24 (fun _ => 0), iA E q20 24 (fun _ => 0), iA E q21 192 (fun _ => 0)]) hin 0 rfl rfl in_X12 tyX12 tyX12_ok nmX12 (by decide) w_1149 rfl rfl rfl rfl rfl (Nat.le_of_ble_eq_true rfl) rfl dX12_init_178 rfl ?_
  refine x_aload_n C dX12_init_181 rfl 0 rfl rfl ?_
  refine x_bipush C (v := 12) dX12_init_182 (by decide) rfl ?_
  refine x_newi C 12 w_55 (by decide) (by decide) (by decide) (Nat.le_of_ble_eq_true rfl) (Nat.le_of_ble_eq_true rfl) dX12_init_184 rfl (fun q22 => ?_)
  refine x_ws (ws1 := [ob h 11 [.ref q1, .ref q2, .ref q3, .ref q4, .int 0, .int 0, .int 0, .int 0, .int 0, .int 0, .int 0, .int 0, .int 0, .int 0, .ref q5, .ref q6, .ref q7, .ref q8, .ref q9, .ref q10, .ref q11, .ref q12, .ref q13, .ref q14, .ref q15, .ref q16, .ref q17, .int 0, .ref q18, .ref q19, .ref q20, .ref q21, .int 0, .int 0, .int 0, .int 0, .int 0, .int 0, .null, .null, .null, .null, .null, .null, .null, .null, .null, .int 0], iA E q1 382 (fun _ => 0), iA E q2 382 (fun _ => 0), iA E q3 382 (fun _ => 0), bA E q4 260 (fun _ => 0), iA E q5 260 (fun _ => 0), iA E q6 260 (fun _ => 0), iA E q7 16 (fun _ => 0), iA E q8 16 (fun _ => 0), iA E q9 16 (fun _ => 0), iA E q10 16 (fun _ => 0), iA E q11 260 (fun _ => 0), iA E q12 16 (fun _ => 0), iA E q13 16 (fun _ => 0), iA E q14 16 (fun _ => 0), iA E q15 16 (fun _ => 0), iA E q16 260 (fun _ => 0), iA E q17 11 (fun _ => 0), iA E q18 25 (fun _ => 0), iA E q19 24 (fun _ => 0), iA E q20 24 (fun _ => 0), iA E q21 192 (fun _ => 0), iA E q22 12 (fun _ => 0)]) rfl ?_
  refine x_wide (k := 22) (n := 2862) (Nat.le_refl _) (Nat.le_refl _) ?_
  refine x_putF C (ci := 11) (k := 38) (ty := .array .int) (ws1 := [ob h 11 [.ref q1, .ref q2, .ref q3, .ref q4, .int 0, .int 0, .int 0, .int 0, .int 0, .int 0, .int 0, .int 0, .int 0, .int 0, .ref q5, .ref q6, .ref q7, .ref q8, .ref q9, .ref q10, .ref q11, .ref q12, .ref q13, .ref q14, .ref q15, .ref q16, .ref q17, .int 0, .ref q18, .ref q19, .ref q20, .ref q21, .int 0, .int 0, .int 0, .int 0, .int 0, .int 0, .ref q22, .null, .null, .null, .null, .null, .null, .null, .null, .int 0], iA E q1 382 (fun _ => 0), iA E q2 382 (fun _ => 0), iA E q3 382 (fun _ => 0), bA E q4 260 (fun _ => 0), iA E q5 260 (fun _ => 0), iA E q6 260 (fun _ => 0), iA E q7 16 (fun _ => 0), iA E q8 16 (fun _ => 0), iA E q9 16 (fun _ => 0), iA E q10 16 (fun _ => 0), iA E q11 260 (fun _ => 0), iA E q12 16 (fun _ => 0), iA E q13 16 (fun _ => 0), iA E q14 16 (fun _ => 0), iA E q15 16 (fun _ => 0), iA E q16 260 (fun _ => 0), iA E q17 11 (fun _ => 0), iA E q18 25 (fun _ => 0), iA E q19 24 (fun _ => 0), iA E q20 24 (fun _ => 0), iA E q21 192 (fun _ => 0), iA E q22 12 (fun _ => 0)]) hin 0 rfl rfl in_X12 tyX12 tyX12_ok nmX12 (by decide) w_1156 rfl rfl rfl rfl rfl (Nat.le_of_ble_eq_true rfl) rfl dX12_init_186 rfl ?_
  refine x_aload_n C dX12_init_189 rfl 0 rfl rfl ?_
  refine x_iconst C (v := 4) dX12_init_190 (by decide) rfl ?_
  refine x_newi C 4 w_55 (by decide) (by decide) (by decide) (Nat.le_of_ble_eq_true rfl) (Nat.le_of_ble_eq_true rfl) dX12_init_191 rfl (fun q23 => ?_)
  refine x_ws (ws1 := [ob h 11 [.ref q1, .ref q2, .ref q3, .ref q4, .int 0, .int 0, .int 0, .int 0, .int 0, .int 0, .int 0, .int 0, .int 0, .int 0, .ref q5, .ref q6, .ref q7, .ref q8, .ref q9, .ref q10, .ref q11, .ref q12, .ref q13, .ref q14, .ref q15, .ref q16, .ref q17, .int 0, .ref q18, .ref q19, .ref q20, .ref q21, .int 0, .int 0, .int 0, .int 0, .int 0, .int 0, .ref q22, .null, .null, .null, .null, .null, .null, .null, .null, .int 0], iA E q1 382 (fun _ => 0), iA E q2 382 (fun _ => 0), iA E q3 382 (fun _ => 0), bA E q4 260 (fun _ => 0), iA E q5 260 (fun _ => 0), iA E q6 260 (fun _ => 0), iA E q7 16 (fun _ => 0), iA E q8 16 (fun _ => 0), iA E q9 16 (fun _ => 0), iA E q10 16 (fun _ => 0), iA E q11 260 (fun _ => 0), iA E q12 16 (fun _ => 0), iA E q13 16 (fun _ => 0), iA E q14 16 (fun _ => 0), iA E q15 16 (fun _ => 0), iA E q16 260 (fun _ => 0), iA E q17 11 (fun _ => 0), iA E q18 25 (fun _ => 0), iA E q19 24 (fun _ => 0), iA E q20 24 (fun _ => 0), iA E q21 192 (fun _ => 0), iA E q22 12 (fun _ => 0), iA E q23 4 (fun _ => 0)]) rfl ?_
  refine x_wide (k := 23) (n := 2866) (Nat.le_refl _) (Nat.le_refl _) ?_
  refine x_putF C (ci := 11) (k := 39) (ty := .array .int) (ws1 := [ob h 11 [.ref q1, .ref q2, .ref q3, .ref q4, .int 0, .int 0, .int 0, .int 0, .int 0, .int 0, .int 0, .int 0, .int 0, .int 0, .ref q5, .ref q6, .ref q7, .ref q8, .ref q9, .ref q10, .ref q11, .ref q12, .ref q13, .ref q14, .ref q15, .ref q16, .ref q17, .int 0, .ref q18, .ref q19, .ref q20, .ref q21, .int 0, .int 0, .int 0, .int 0, .int 0, .int 0, .ref q22, .ref q23, .null, .null, .null, .null, .null, .null, .null, .int 0], iA E q1 382 (fun _ => 0), iA E q2 382 (fun _ => 0), iA E q3 382 (fun _ => 0), bA E q4 260 (fun _ => 0), iA E q5 260 (fun _ => 0), iA E q6 260 (fun _ => 0), iA E q7 16 (fun _ => 0), iA E q8 16 (fun _ => 0), iA E q9 16 (fun _ => 0), iA E q10 16 (fun _ => 0), iA E q11 260 (fun _ => 0), iA E q12 16 (fun _ => 0), iA E q13 16 (fun _ => 0), iA E q14 16 (fun _ => 0), iA E q15 16 (fun _ => 0), iA E q16 260 (fun _ => 0), iA E q17 11 (fun _ => 0), iA E q18 25 (fun _ => 0), iA E q19 24 (fun _ => 0), iA E q20 24 (fun _ => 0), iA E q21 192 (fun _ => 0), iA E q22 12 (fun _ => 0), iA E q23 4 (fun _ => 0)]) hin 0 rfl rfl in_X12 tyX12 tyX12_ok nmX12 (by decide) w_1157 rfl rfl rfl rfl rfl (Nat.le_of_ble_eq_true rfl) rfl dX12_init_193 rfl ?_
  refine x_aload_n C dX12_init_196 rfl 0 rfl rfl ?_
  refine x_sipush C (v := 5120) dX12_init_197 (by decide) rfl ?_
  refine x_newi C 5120 w_55 (by decide) (by decide) (by decide) (Nat.le_of_ble_eq_true rfl) (Nat.le_of_ble_eq_true rfl) dX12_init_200 rfl (fun q24 => ?_)
  refine x_ws (ws1 := [ob h 11 [.ref q1, .ref q2, .ref q3, .ref q4, .int 0, .int 0, .int 0, .int 0, .int 0, .int 0, .int 0, .int 0, .int 0, .int 0, .ref q5, .ref q6, .ref q7, .ref q8, .ref q9, .ref q10, .ref q11, .ref q12, .ref q13, .ref q14, .ref q15, .ref q16, .ref q17, .int 0, .ref q18, .ref q19, .ref q20, .ref q21, .int 0, .int 0, .int 0, .int 0, .int 0, .int 0, .ref q22, .ref q23, .null, .null, .null, .null, .null, .null, .null, .int 0], iA E q1 382 (fun _ => 0), iA E q2 382 (fun _ => 0), iA E q3 382 (fun _ => 0), bA E q4 260 (fun _ => 0), iA E q5 260 (fun _ => 0), iA E q6 260 (fun _ => 0), iA E q7 16 (fun _ => 0), iA E q8 16 (fun _ => 0), iA E q9 16 (fun _ => 0), iA E q10 16 (fun _ => 0), iA E q11 260 (fun _ => 0), iA E q12 16 (fun _ => 0), iA E q13 16 (fun _ => 0), iA E q14 16 (fun _ => 0), iA E q15 16 (fun _ => 0), iA E q16 260 (fun _ => 0), iA E q17 11 (fun _ => 0), iA E q18 25 (fun _ => 0), iA E q19 24 (fun _ => 0), iA E q20 24 (fun _ => 0), iA E q21 192 (fun _ => 0), iA E q22 12 (fun _ => 0), iA E q23 4 (fun _ => 0), iA E q24 5120 (fun _ => 0)]) rfl ?_
  refine x_wide (k := 24) (n := 7986) (Nat.le_refl _) (Nat.le_refl _) ?_
  refine x_putF C (ci := 11) (k := 40) (ty := .array .int) (ws1 := [ob h 11 [.ref q1, .ref q2, .ref q3, .ref q4, .int 0, .int 0, .int 0, .int 0, .int 0, .int 0, .int 0, .int 0, .int 0, .int 0, .ref q5, .ref q6, .ref q7, .ref q8, .ref q9, .ref q10, .ref q11, .ref q12, .ref q13, .ref q14, .ref q15, .ref q16, .ref q17, .int 0, .ref q18, .ref q19, .ref q20, .ref q21, .int 0, .int 0, .int 0, .int 0, .int 0, .int 0, .ref q22, .ref q23, .ref q24, .null, .null, .null, .null, .null, .null, .int 0], iA E q1 382 (fun _ => 0), iA E q2 382 (fun _ => 0), iA E q3 382 (fun _ => 0), bA E q4 260 (fun _ => 0), iA E q5 260 (fun _ => 0), iA E q6 260 (fun _ => 0), iA E q7 16 (fun _ => 0), iA E q8 16 (fun _ => 0), iA E q9 16 (fun _ => 0), iA E q10 16 (fun _ => 0), iA E q11 260 (fun _ => 0), iA E q12 16 (fun _ => 0), iA E q13 16 (fun _ => 0), iA E q14 16 (fun _ => 0), iA E q15 16 (fun _ => 0), iA E q16 260 (fun _ => 0), iA E q17 11 (fun _ => 0), iA E q18 25 (fun _ => 0), iA E q19 24 (fun _ => 0), iA E q20 24 (fun _ => 0), iA E q21 192 (fun _ => 0), iA E q22 12 (fun _ => 0), iA E q23 4 (fun _ => 0), iA E q24 5120 (fun _ => 0)]) hin 0 rfl rfl in_X12 tyX12 tyX12_ok nmX12 (by decide) w_1158 rfl rfl rfl rfl rfl (Nat.le_of_ble_eq_true rfl) rfl dX12_init_202 rfl ?_
  refine x_aload_n C dX12_init_205 rfl 0 rfl rfl ?_
  refine x_sipush C (v := 1024) dX12_init_206 (by decide) rfl ?_
  refine x_newi C 1024 w_55 (by decide) (by decide) (by decide) (Nat.le_of_ble_eq_true rfl) (Nat.le_of_ble_eq_true rfl) dX12_init_209 rfl (fun q25 => ?_)
  refine x_ws (ws1 := [ob h 11 [.ref q1, .ref q2, .ref q3, .ref q4, .int 0, .int 0, .int 0, .int 0, .int 0, .int 0, .int 0, .int 0, .int 0, .int 0, .ref q5, .ref q6, .ref q7, .ref q8, .ref q9, .ref q10, .ref q11, .ref q12, .ref q13, .ref q14, .ref q15, .ref q16, .ref q17, .int 0, .ref q18, .ref q19, .ref q20, .ref q21, .int 0, .int 0, .int 0, .int 0, .int 0, .int 0, .ref q22, .ref q23, .ref q24, .null, .null, .null, .null, .null, .null, .int 0], iA E q1 382 (fun _ => 0), iA E q2 382 (fun _ => 0), iA E q3 382 (fun _ => 0), bA E q4 260 (fun _ => 0), iA E q5 260 (fun _ => 0), iA E q6 260 (fun _ => 0), iA E q7 16 (fun _ => 0), iA E q8 16 (fun _ => 0), iA E q9 16 (fun _ => 0), iA E q10 16 (fun _ => 0), iA E q11 260 (fun _ => 0), iA E q12 16 (fun _ => 0), iA E q13 16 (fun _ => 0), iA E q14 16 (fun _ => 0), iA E q15 16 (fun _ => 0), iA E q16 260 (fun _ => 0), iA E q17 11 (fun _ => 0), iA E q18 25 (fun _ => 0), iA E q19 24 (fun _ => 0), iA E q20 24 (fun _ => 0), iA E q21 192 (fun _ => 0), iA E q22 12 (fun _ => 0), iA E q23 4 (fun _ => 0), iA E q24 5120 (fun _ => 0), iA E q25 1024 (fun _ => 0)]) rfl ?_
  refine x_wide (k := 25) (n := 9010) (Nat.le_refl _) (Nat.le_refl _) ?_
  refine x_putF C (ci := 11) (k := 41) (ty := .array .int) (ws1 := [ob h 11 [.ref q1, .ref q2, .ref q3, .ref q4, .int 0, .int 0, .int 0, .int 0, .int 0, .int 0, .int 0, .int 0, .int 0, .int 0, .ref q5, .ref q6, .ref q7, .ref q8, .ref q9, .ref q10, .ref q11, .ref q12, .ref q13, .ref q14, .ref q15, .ref q16, .ref q17, .int 0, .ref q18, .ref q19, .ref q20, .ref q21, .int 0, .int 0, .int 0, .int 0, .int 0, .int 0, .ref q22, .ref q23, .ref q24, .ref q25, .null, .null, .null, .null, .null, .int 0], iA E q1 382 (fun _ => 0), iA E q2 382 (fun _ => 0), iA E q3 382 (fun _ => 0), bA E q4 260 (fun _ => 0), iA E q5 260 (fun _ => 0), iA E q6 260 (fun _ => 0), iA E q7 16 (fun _ => 0), iA E q8 16 (fun _ => 0), iA E q9 16 (fun _ => 0), iA E q10 16 (fun _ => 0), iA E q11 260 (fun _ => 0), iA E q12 16 (fun _ => 0), iA E q13 16 (fun _ => 0), iA E q14 16 (fun _ => 0), iA E q15 16 (fun _ => 0), iA E q16 260 (fun _ => 0), iA E q17 11 (fun _ => 0), iA E q18 25 (fun _ => 0), iA E q19 24 (fun _ => 0), iA E q20 24 (fun _ => 0), iA E q21 192 (fun _ => 0), iA E q22 12 (fun _ => 0), iA E q23 4 (fun _ => 0), iA E q24 5120 (fun _ => 0), iA E q25 1024 (fun _ => 0)]) hin 0 rfl rfl in_X12 tyX12 tyX12_ok nmX12 (by decide) w_1159 rfl rfl rfl rfl rfl (Nat.le_of_ble_eq_true rfl) rfl dX12_init_211 rfl ?_
  refine x_aload_n C dX12_init_214 rfl 0 rfl rfl ?_
  refine x_bipush C (v := 48) dX12_init_215 (by decide) rfl ?_
  refine x_newi C 48 w_55 (by decide) (by decide) (by decide) (Nat.le_of_ble_eq_true rfl) (Nat.le_of_ble_eq_true rfl) dX12_init_217 rfl (fun q26 => ?_)
  refine x_ws (ws1 := [ob h 11 [.ref q1, .ref q2, .ref q3, .ref q4, .int 0, .int 0, .int 0, .int 0, .int 0, .int 0, .int 0, .int 0, .int 0, .int 0, .ref q5, .ref q6, .ref q7, .ref q8, .ref q9, .ref q10, .ref q11, .ref q12, .ref q13, .ref q14, .ref q15, .ref q16, .ref q17, .int 0, .ref q18, .ref q19, .ref q20, .ref q21, .int 0, .int 0, .int 0, .int 0, .int 0, .int 0, .ref q22, .ref q23, .ref q24, .ref q25, .null, .null, .null, .null, .null, .int 0], iA E q1 382 (fun _ => 0), iA E q2 382 (fun _ => 0), iA E q3 382 (fun _ => 0), bA E q4 260 (fun _ => 0), iA E q5 260 (fun _ => 0), iA E q6 260 (fun _ => 0), iA E q7 16 (fun _ => 0), iA E q8 16 (fun _ => 0), iA E q9 16 (fun _ => 0), iA E q10 16 (fun _ => 0), iA E q11 260 (fun _ => 0), iA E q12 16 (fun _ => 0), iA E q13 16 (fun _ => 0), iA E q14 16 (fun _ => 0), iA E q15 16 (fun _ => 0), iA E q16 260 (fun _ => 0), iA E q17 11 (fun _ => 0), iA E q18 25 (fun _ => 0), iA E q19 24 (fun _ => 0), iA E q20 24 (fun _ => 0), iA E q21 192 (fun _ => 0), iA E q22 12 (fun _ => 0), iA E q23 4 (fun _ => 0), iA E q24 5120 (fun _ => 0), iA E q25 1024 (fun _ => 0), iA E q26 48 (fun _ => 0)]) rfl ?_
  refine x_wide (k := 26) (n := 9058) (Nat.le_refl _) (Nat.le_refl _) ?_
  refine x_putF C (ci := 11) (k := 42) (ty := .array .int) (ws1 := [ob h 11 [.ref q1, .ref q2, .ref q3, .ref q4, .int 0, .int 0, .int 0, .int 0, .int 0, .int 0, .int 0, .int 0, .int 0, .int 0, .ref q5, .ref q6, .ref q7, .ref q8, .ref q9, .ref q10, .ref q11, .ref q12, .ref q13, .ref q14, .ref q15, .ref q16, .ref q17, .int 0, .ref q18, .ref q19, .ref q20, .ref q21, .int 0, .int 0, .int 0, .int 0, .int 0, .int 0, .ref q22, .ref q23, .ref q24, .ref q25, .ref q26, .null, .null, .null, .null, .int 0], iA E q1 382 (fun _ => 0), iA E q2 382 (fun _ => 0), iA E q3 382 (fun _ => 0), bA E q4 260 (fun _ => 0), iA E q5 260 (fun _ => 0), iA E q6 260 (fun _ => 0), iA E q7 16 (fun _ => 0), iA E q8 16 (fun _ => 0), iA E q9 16 (fun _ => 0), iA E q10 16 (fun _ => 0), iA E q11 260 (fun _ => 0), iA E q12 16 (fun _ => 0), iA E q13 16 (fun _ => 0), iA E q14 16 (fun _ => 0), iA E q15 16 (fun _ => 0), iA E q16 260 (fun _ => 0), iA E q17 11 (fun _ => 0), iA E q18 25 (fun _ => 0), iA E q19 24 (fun _ => 0), iA E q20 24 (fun _ => 0), iA E q21 192 (fun _ => 0), iA E q22 12 (fun _ => 0), iA E q23 4 (fun _ => 0), iA E q24 5120 (fun _ => 0), iA E q25 1024 (fun _ => 0), iA E q26 48 (fun _ => 0)]) hin 0 rfl rfl in_X12 tyX12 tyX12_ok nmX12 (by decide) w_1160 rfl rfl rfl rfl rfl (Nat.le_of_ble_eq_true rfl) rfl dX12_init_219 rfl ?_
  refine x_aload_n C dX12_init_222 rfl 0 rfl rfl ?_
  refine x_bipush C (v := 48) dX12_init_223 (by decide) rfl ?_
  refine x_newi C 48 w_55 (by decide) (by decide) (by decide) (Nat.le_of_ble_eq_true rfl) (Nat.le_of_ble_eq_true rfl) dX12_init_225 rfl (fun q27 => ?_)
  refine x_ws (ws1 := [ob h 11 [.ref q1, .ref q2, .ref q3, .ref q4, .int 0, .int 0, .int 0, .int 0, .int 0, .int 0, .int 0, .int 0, .int 0, .int 0, .ref q5, .ref q6, .ref q7, .ref q8, .ref q9, .ref q10, .ref q11, .ref q12, .ref q13, .ref q14, .ref q15, .ref q16, .ref q17, .int 0, .ref q18, .ref q19, .ref q20, .ref q21, .int 0, .int 0, .int 0, .int 0, .int 0, .int 0, .ref q22, .ref q23, .ref q24, .ref q25, .ref q26, .null, .null, .null, .null, .int 0], iA E q1 382 (fun _ => 0), iA E q2 382 (fun _ => 0), iA E q3 382 (fun _ => 0), bA E q4 260 (fun _ => 0), iA E q5 260 (fun _ => 0), iA E q6 260 (fun _ => 0), iA E q7 16 (fun _ => 0), iA E q8 16 (fun _ => 0), iA E q9 16 (fun _ => 0), iA E q10 16 (fun _ => 0), iA E q11 260 (fun _ => 0), iA E q12 16 (fun _ => 0), iA E q13 16 (fun _ => 0), iA E q14 16 (fun _ => 0), iA E q15 16 (fun _ => 0), iA E q16 260 (fun _ => 0), iA E q17 11 (fun _ => 0), iA E q18 25 (fun _ => 0), iA E q19 24 (fun _ => 0), iA E q20 24 (fun _ => 0), iA E q21 192 (fun _ => 0), iA E q22 12 (fun _ => 0), iA E q23 4 (fun _ => 0), iA E q24 5120 (fun _ => 0), iA E q25 1024 (fun _ => 0), iA E q26 48 (fun _ => 0), iA E q27 48 (fun _ => 0)]) rfl ?_
  refine x_wide (k := 27) (n := 9106) (Nat.le_refl _) (Nat.le_refl _) ?_
  refine x_putF C (ci := 11) (k := 43) (ty := .array .int) (ws1 := [ob h 11 [.ref q1, .ref q2, .ref q3, .ref q4, .int 0, .int 0, .int 0, .int 0, .int 0, .int 0, .int 0, .int 0, .int 0, .int 0, .ref q5, .ref q6, .ref q7, .ref q8, .ref q9, .ref q10, .ref q11, .ref q12, .ref q13, .ref q14, .ref q15, .ref q16, .ref q17, .int 0, .ref q18, .ref q19, .ref q20, .ref q21, .int 0, .int 0, .int 0, .int 0, .int 0, .int 0, .ref q22, .ref q23, .ref q24, .ref q25, .ref q26, .ref q27, .null, .null, .null, .int 0], iA E q1 382 (fun _ => 0), iA E q2 382 (fun _ => 0), iA E q3 382 (fun _ => 0), bA E q4 260 (fun _ => 0), iA E q5 260 (fun _ => 0), iA E q6 260 (fun _ => 0), iA E q7 16 (fun _ => 0), iA E q8 16 (fun _ => 0), iA E q9 16 (fun _ => 0), iA E q10 16 (fun _ => 0), iA E q11 260 (fun _ => 0), iA E q12 16 (fun _ => 0), iA E q13 16 (fun _ => 0), iA E q14 16 (fun _ => 0), iA E q15 16 (fun _ => 0), iA E q16 260 (fun _ => 0), iA E q17 11 (fun _ => 0), iA E q18 25 (fun _ => 0), iA E q19 24 (fun _ => 0), iA E q20 24 (fun _ => 0), iA E q21 192 (fun _ => 0), iA E q22 12 (fun _ => 0), iA E q23 4 (fun _ => 0), iA E q24 5120 (fun _ => 0), iA E q25 1024 (fun _ => 0), iA E q26 48 (fun _ => 0), iA E q27 48 (fun _ => 0)]) hin 0 rfl rfl in_X12 tyX12 tyX12_ok nmX12 (by decide) w_1161 rfl rfl rfl rfl rfl (Nat.le_of_ble_eq_true rfl) rfl dX12_init_227 rfl ?_
  refine x_aload_n C dX12_init_230 rfl 0 rfl rfl ?_
  refine x_bipush C (v := 40) dX12_init_231 (by decide) rfl ?_
  refine x_newi C 40 w_55 (by decide) (by decide) (by decide) (Nat.le_of_ble_eq_true rfl) (Nat.le_of_ble_eq_true rfl) dX12_init_233 rfl (fun q28 => ?_)
  refine x_ws (ws1 := [ob h 11 [.ref q1, .ref q2, .ref q3, .ref q4, .int 0, .int 0, .int 0, .int 0, .int 0, .int 0, .int 0, .int 0, .int 0, .int 0, .ref q5, .ref q6, .ref q7, .ref q8, .ref q9, .ref q10, .ref q11, .ref q12, .ref q13, .ref q14, .ref q15, .ref q16, .ref q17, .int 0, .ref q18, .ref q19, .ref q20, .ref q21, .int 0, .int 0, .int 0, .int 0, .int 0, .int 0, .ref q22, .ref q23, .ref q24, .ref q25, .ref q26, .ref q27, .null, .null, .null, .int 0], iA E q1 382 (fun _ => 0), iA E q2 382 (fun _ => 0), iA E q3 382 (fun _ => 0), bA E q4 260 (fun _ => 0), iA E q5 260 (fun _ => 0), iA E q6 260 (fun _ => 0), iA E q7 16 (fun _ => 0), iA E q8 16 (fun _ => 0), iA E q9 16 (fun _ => 0), iA E q10 16 (fun _ => 0), iA E q11 260 (fun _ => 0), iA E q12 16 (fun _ => 0), iA E q13 16 (fun _ => 0), iA E q14 16 (fun _ => 0), iA E q15 16 (fun _ => 0), iA E q16 260 (fun _ => 0), iA E q17 11 (fun _ => 0), iA E q18 25 (fun _ => 0), iA E q19 24 (fun _ => 0), iA E q20 24 (fun _ => 0), iA E q21 192 (fun _ => 0), iA E q22 12 (fun _ => 0), iA E q23 4 (fun _ => 0), iA E q24 5120 (fun _ => 0), iA E q25 1024 (fun _ => 0), iA E q26 48 (fun _ => 0), iA E q27 48 (fun _ => 0), iA E q28 40 (fun _ => 0)]) rfl ?_
  refine x_wide (k := 28) (n := 9146) (Nat.le_refl _) (Nat.le_refl _) ?_
  refine x_putF C (ci := 11) (k := 44) (ty := .array .int) (ws1 := [ob h 11 [.ref q1, .ref q2, .ref q3, .ref q4, .int 0, .int 0, .int 0, .int 0, .int 0, .int 0, .int 0, .int 0, .int 0, .int 0, .ref q5, .ref q6, .ref q7, .ref q8, .ref q9, .ref q10, .ref q11, .ref q12, .ref q13, .ref q14, .ref q15, .ref q16, .ref q17, .int 0, .ref q18, .ref q19, .ref q20, .ref q21, .int 0, .int 0, .int 0, .int 0, .int 0, .int 0, .ref q22, .ref q23, .ref q24, .ref q25, .ref q26, .ref q27, .ref q28, .null, .null, .int 0], iA E q1 382 (fun _ => 0), iA E q2 382 (fun _ => 0), iA E q3 382 (fun _ => 0), bA E q4 260 (fun _ => 0), iA E q5 260 (fun _ => 0), iA E q6 260 (fun _ => 0), iA E q7 16 (fun _ => 0), iA E q8 16 (fun _ => 0), iA E q9 16 (fun _ => 0), iA E q10 16 (fun _ => 0), iA E q11 260 (fun _ => 0), iA E q12 16 (fun _ => 0), iA E q13 16 (fun _ => 0), iA E q14 16 (fun _ => 0), iA E q15 16 (fun _ => 0), iA E q16 260 (fun _ => 0), iA E q17 11 (fun _ => 0), iA E q18 25 (fun _ => 0), iA E q19 24 (fun _ => 0), iA E q20 24 (fun _ => 0), iA E q21 192 (fun _ => 0), iA E q22 12 (fun _ => 0), iA E q23 4 (fun _ => 0), iA E q24 5120 (fun _ => 0), iA E q25 1024 (fun _ => 0), iA E q26 48 (fun _ => 0), iA E q27 48 (fun _ => 0), iA E q28 40 (fun _ => 0)]) hin 0 rfl rfl in_X12 tyX12 tyX12_ok nmX12 (by decide) w_1162 rfl rfl rfl rfl rfl (Nat.le_of_ble_eq_true rfl) rfl dX12_init_235 rfl ?_
  refine x_aload_n C dX12_init_238 rfl 0 rfl rfl ?_
  refine x_sipush C (v := 273) dX12_init_239 (by decide) rfl ?_
  refine x_newi C 273 w_55 (by decide) (by decide) (by decide) (Nat.le_of_ble_eq_true rfl) (Nat.le_of_ble_eq_true rfl) dX12_init_242 rfl (fun q29 => ?_)
  refine x_ws (ws1 := [ob h 11 [.ref q1, .ref q2, .ref q3, .ref q4, .int 0, .int 0, .int 0, .int 0, .int 0, .int 0, .int 0, .int 0, .int 0, .int 0, .ref q5, .ref q6, .ref q7, .ref q8, .ref q9, .ref q10, .ref q11, .ref q12, .ref q13, .ref q14, .ref q15, .ref q16, .ref q17, .int 0, .ref q18, .ref q19, .ref q20, .ref q21, .int 0, .int 0, .int 0, .int 0, .int 0, .int 0, .ref q22, .ref q23, .ref q24, .ref q25, .ref q26, .ref q27, .ref q28, .null, .null, .int 0], iA E q1 382 (fun _ => 0), iA E q2 382 (fun _ => 0), iA E q3 382 (fun _ => 0), bA E q4 260 (fun _ => 0), iA E q5 260 (fun _ => 0), iA E q6 260 (fun _ => 0), iA E q7 16 (fun _ => 0), iA E q8 16 (fun _ => 0), iA E q9 16 (fun _ => 0), iA E q10 16 (fun _ => 0), iA E q11 260 (fun _ => 0), iA E q12 16 (fun _ => 0), iA E q13 16 (fun _ => 0), iA E q14 16 (fun _ => 0), iA E q15 16 (fun _ => 0), iA E q16 260 (fun _ => 0), iA E q17 11 (fun _ => 0), iA E q18 25 (fun _ => 0), iA E q19 24 (fun _ => 0), iA E q20 24 (fun _ => 0), iA E q21 192 (fun _ => 0), iA E q22 12 (fun _ => 0), iA E q23 4 (fun _ => 0), iA E q24 5120 (fun _ => 0), iA E q25 1024 (fun _ => 0), iA E q26 48 (fun _ => 0), iA E q27 48 (fun _ => 0), iA E q28 40 (fun _ => 0), iA E q29 273 (fun _ => 0)]) rfl ?_
  refine x_wide (k := 29) (n := 9419) (Nat.le_refl _) (Nat.le_refl _) ?_
  refine x_putF C (ci := 11) (k := 45) (ty := .array .int) (ws1 := [ob h 11 [.ref q1, .ref q2, .ref q3, .ref q4, .int 0, .int 0, .int 0, .int 0, .int 0, .int 0, .int 0, .int 0, .int 0, .int 0, .ref q5, .ref q6, .ref q7, .ref q8, .ref q9, .ref q10, .ref q11, .ref q12, .ref q13, .ref q14, .ref q15, .ref q16, .ref q17, .int 0, .ref q18, .ref q19, .ref q20, .ref q21, .int 0, .int 0, .int 0, .int 0, .int 0, .int 0, .ref q22, .ref q23, .ref q24, .ref q25, .ref q26, .ref q27, .ref q28, .ref q29, .null, .int 0], iA E q1 382 (fun _ => 0), iA E q2 382 (fun _ => 0), iA E q3 382 (fun _ => 0), bA E q4 260 (fun _ => 0), iA E q5 260 (fun _ => 0), iA E q6 260 (fun _ => 0), iA E q7 16 (fun _ => 0), iA E q8 16 (fun _ => 0), iA E q9 16 (fun _ => 0), iA E q10 16 (fun _ => 0), iA E q11 260 (fun _ => 0), iA E q12 16 (fun _ => 0), iA E q13 16 (fun _ => 0), iA E q14 16 (fun _ => 0), iA E q15 16 (fun _ => 0), iA E q16 260 (fun _ => 0), iA E q17 11 (fun _ => 0), iA E q18 25 (fun _ => 0), iA E q19 24 (fun _ => 0), iA E q20 24 (fun _ => 0), iA E q21 192 (fun _ => 0), iA E q22 12 (fun _ => 0), iA E q23 4 (fun _ => 0), iA E q24 5120 (fun _ => 0), iA E q25 1024 (fun _ => 0), iA E q26 48 (fun _ => 0), iA E q27 48 (fun _ => 0), iA E q28 40 (fun _ => 0), iA E q29 273 (fun _ => 0)]) hin 0 rfl rfl in_X12 tyX12 tyX12_ok nmX12 (by decide) w_1163 rfl rfl rfl rfl rfl (Nat.le_of_ble_eq_true rfl) rfl dX12_init_244 rfl ?_
  refine x_aload_n C dX12_init_247 rfl 0 rfl rfl ?_
  refine x_iconst C (v := 5) dX12_init_248 (by decide) rfl ?_
  refine x_newi C 5 w_55 (by decide) (by decide) (by decide) (Nat.le_of_ble_eq_true rfl) (Nat.le_of_ble_eq_true rfl) dX12_init_249 rfl (fun q30 => ?_)
  refine x_ws (ws1 := [ob h 11 [.ref q1, .ref q2, .ref q3, .ref q4, .int 0, .int 0, .int 0, .int 0, .int 0, .int 0, .int 0, .int 0, .int 0, .int 0, .ref q5, .ref q6, .ref q7, .ref q8, .ref q9, .ref q10, .ref q11, .ref q12, .ref q13, .ref q14, .ref q15, .ref q16, .ref q17, .int 0, .ref q18, .ref q19, .ref q20, .ref q21, .int 0, .int 0, .int 0, .int 0, .int 0, .int 0, .ref q22, .ref q23, .ref q24, .ref q25, .ref q26, .ref q27, .ref q28, .ref q29, .null, .int 0], iA E q1 382 (fun _ => 0), iA E q2 382 (fun _ => 0), iA E q3 382 (fun _ => 0), bA E q4 260 (fun _ => 0), iA E q5 260 (fun _ => 0), iA E q6 260 (fun _ => 0), iA E q7 16 (fun _ => 0), iA E q8 16 (fun _ => 0), iA E q9 16 (fun _ => 0), iA E q10 16 (fun _ => 0), iA E q11 260 (fun _ => 0), iA E q12 16 (fun _ => 0), iA E q13 16 (fun _ => 0), iA E q14 16 (fun _ => 0), iA E q15 16 (fun _ => 0), iA E q16 260 (fun _ => 0), iA E q17 11 (fun _ => 0), iA E q18 25 (fun _ => 0), iA E q19 24 (fun _ => 0), iA E q20 24 (fun _ => 0), iA E q21 192 (fun _ => 0), iA E q22 12 (fun _ => 0), iA E q23 4 (fun _ => 0), iA E q24 5120 (fun _ => 0), iA E q25 1024 (fun _ => 0), iA E q26 48 (fun _ => 0), iA E q27 48 (fun _ => 0), iA E q28 40 (fun _ => 0), iA E q29 273 (fun _ => 0), iA E q30 5 (fun _ => 0)]) rfl ?_
  refine x_wide (k := 30) (n := 9424) (Nat.le_refl _) (Nat.le_refl _) ?_
  refine x_putF C (ci := 11) (k := 46) (ty := .array .int) (ws1 := [ob h 11 [.ref q1, .ref q2, .ref q3, .ref q4, .int 0, .int 0, .int 0, .int 0, .int 0, .int 0, .int 0, .int 0, .int 0, .int 0, .ref q5, .ref q6, .ref q7, .ref q8, .ref q9, .ref q10, .ref q11, .ref q12, .ref q13, .ref q14, .ref q15, .ref q16, .ref q17, .int 0, .ref q18, .ref q19, .ref q20, .ref q21, .int 0, .int 0, .int 0, .int 0, .int 0, .int 0, .ref q22, .ref q23, .ref q24, .ref q25, .ref q26, .ref q27, .ref q28, .ref q29, .ref q30, .int 0], iA E q1 382 (fun _ => 0), iA E q2 382 (fun _ => 0), iA E q3 382 (fun _ => 0), bA E q4 260 (fun _ => 0), iA E q5 260 (fun _ => 0), iA E q6 260 (fun _ => 0), iA E q7 16 (fun _ => 0), iA E q8 16 (fun _ => 0), iA E q9 16 (fun _ => 0), iA E q10 16 (fun _ => 0), iA E q11 260 (fun _ => 0), iA E q12 16 (fun _ => 0), iA E q13 16 (fun _ => 0), iA E q14 16 (fun _ => 0), iA E q15 16 (fun _ => 0), iA E q16 260 (fun _ => 0), iA E q17 11 (fun _ => 0), iA E q18 25 (fun _ => 0), iA E q19 24 (fun _ => 0), iA E q20 24 (fun _ => 0), iA E q21 192 (fun _ => 0), iA E q22 12 (fun _ => 0), iA E q23 4 (fun _ => 0), iA E q24 5120 (fun _ => 0), iA E q25 1024 (fun _ => 0), iA E q26 48 (fun _ => 0), iA E q27 48 (fun _ => 0), iA E q28 40 (fun _ => 0), iA E q29 273 (fun _ => 0), iA E q30 5 (fun _ => 0)]) hin 0 rfl rfl in_X12 tyX12 tyX12_ok nmX12 (by decide) w_1164 rfl rfl rfl rfl rfl (Nat.le_of_ble_eq_true rfl) rfl dX12_init_251 rfl ?_
  refine x_aload_n C dX12_init_254 rfl 0 rfl rfl ?_
  refine x_get C (ci := 11) (k := 0) 0 rfl rfl in_X12 (by decide) w_1118 rfl dX12_init_255 rfl ?_
  refine x_sipush C (v := 380) dX12_init_258 (by decide) rfl ?_
  refine x_iconst C (v := 1) dX12_init_261 (by decide) rfl ?_
  refine x_iask C (ws1 := [ob h 11 [.ref q1, .ref q2, .ref q3, .ref q4, .int 0, .int 0, .int 0, .int 0, .int 0, .int 0, .int 0, .int 0, .int 0, .int 0, .ref q5, .ref q6, .ref q7, .ref q8, .ref q9, .ref q10, .ref q11, .ref q12, .ref q13, .ref q14, .ref q15, .ref q16, .ref q17, .int 0, .ref q18, .ref q19, .ref q20, .ref q21, .int 0, .int 0, .int 0, .int 0, .int 0, .int 0, .ref q22, .ref q23, .ref q24, .ref q25, .ref q26, .ref q27, .ref q28, .ref q29, .ref q30, .int 0], iA E q1 382 (upd (fun _ => 0) 380 1), iA E q2 382 (fun _ => 0), iA E q3 382 (fun _ => 0), bA E q4 260 (fun _ => 0), iA E q5 260 (fun _ => 0), iA E q6 260 (fun _ => 0), iA E q7 16 (fun _ => 0), iA E q8 16 (fun _ => 0), iA E q9 16 (fun _ => 0), iA E q10 16 (fun _ => 0), iA E q11 260 (fun _ => 0), iA E q12 16 (fun _ => 0), iA E q13 16 (fun _ => 0), iA E q14 16 (fun _ => 0), iA E q15 16 (fun _ => 0), iA E q16 260 (fun _ => 0), iA E q17 11 (fun _ => 0), iA E q18 25 (fun _ => 0), iA E q19 24 (fun _ => 0), iA E q20 24 (fun _ => 0), iA E q21 192 (fun _ => 0), iA E q22 12 (fun _ => 0), iA E q23 4 (fun _ => 0), iA E q24 5120 (fun _ => 0), iA E q25 1024 (fun _ => 0), iA E q26 48 (fun _ => 0), iA E q27 48 (fun _ => 0), iA E q28 40 (fun _ => 0), iA E q29 273 (fun _ => 0), iA E q30 5 (fun _ => 0)]) 380 (by decide) (by decide) (by decide) 1 rfl rfl dX12_init_262 rfl ?_
  refine x_sub (ws1 := [ob h 11 [.ref q1, .ref q2, .ref q3, .ref q4, .int 0, .int 0, .int 0, .int 0, .int 0, .int 0, .int 0, .int 0, .int 0, .int 0, .ref q5, .ref q6, .ref q7, .ref q8, .ref q9, .ref q10, .ref q11, .ref q12, .ref q13, .ref q14, .ref q15, .ref q16, .ref q17, .int 0, .ref q18, .ref q19, .ref q20, .ref q21, .int 0, .int 0, .int 0, .int 0, .int 0, .int 0, .ref q22, .ref q23, .ref q24, .ref q25, .ref q26, .ref q27, .ref q28, .ref q29, .ref q30, .int 0], iA E q1 382 (upd (fun _ => 0) 380 1), iA E q2 382 (fun _ => 0), iA E q3 382 (fun _ => 0), bA E q4 260 (fun _ => 0), iA E q5 260 (fun _ => 0), iA E q6 260 (fun _ => 0), iA E q7 16 (fun _ => 0), iA E q8 16 (fun _ => 0), iA E q9 16 (fun _ => 0), iA E q10 16 (fun _ => 0), iA E q11 260 (fun _ => 0), iA E q12 16 (fun _ => 0), iA E q13 16 (fun _ => 0), iA E q14 16 (fun _ => 0), iA E q15 16 (fun _ => 0), iA E q16 260 (fun _ => 0), iA E q17 11 (fun _ => 0), iA E q18 25 (fun _ => 0), iA E q19 24 (fun _ => 0), iA E q20 24 (fun _ => 0), iA E q21 192 (fun _ => 0), iA E q22 12 (fun _ => 0), iA E q23 4 (fun _ => 0), iA E q24 5120 (fun _ => 0), iA E q25 1024 (fun _ => 0), iA E q26 48 (fun _ => 0), iA E q27 48 (fun _ => 0), iA E q28 40 (fun _ => 0), iA E q29 273 (fun _ => 0), iA E q30 5 (fun _ => 0)]) [0, 1, 2, 3, 4, 5, 6, 7, 8, 9, 10, 11, 12, 13, 14, 15, 16, 17, 18, 19, 20, 21, 22, 23, 24, 25, 26, 27, 28, 29, 30] rfl rfl rfl ?_
  exact x_vret C hr hlk dX12_init_263 ⟨adM h q1 q2 q3 q4 q5 q6 q7 q8 q9 q10 q11 q12 q13 q14 q15 q16 q17 q18 q19 q20 q21 q22 q23 q24 q25 q26 q27 q28 q29 q30, cd0, rfl, Good_0, VM_ok E h q1 q2 q3 q4 q5 q6 q7 q8 q9 q10 q11 q12 q13 q14 q15 q16 q17 q18 q19 q20 q21 q22 q23 q24 q25 q26 q27 q28 q29 q30⟩
