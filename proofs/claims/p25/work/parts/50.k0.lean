-- by program (wip/gen/mkk0.py): bounds of all cells (zk_I), what is not written (zk_fr)
noncomputable def zk_nlo (n : Nat) : Int := (bif Nat.ble 36 n then (bif Nat.ble 252 n then (bif Nat.ble 258 n then (bif Nat.ble 264 n then (-2147483648) else (-2147483648)) else 0) else (bif Nat.ble 236 n then (bif Nat.ble 244 n then 0 else (-2147483648)) else 0)) else (bif Nat.ble 6 n then (bif Nat.ble 16 n then (bif Nat.ble 26 n then 0 else 0) else 0) else (bif Nat.ble 2 n then (bif Nat.ble 3 n then (-2147483648) else 0) else (-2147483648))))
noncomputable def zk_nhi (n : Nat) : Int := (bif Nat.ble 36 n then (bif Nat.ble 252 n then (bif Nat.ble 258 n then (bif Nat.ble 264 n then 2147483647 else 2147483647) else 10) else (bif Nat.ble 236 n then (bif Nat.ble 244 n then 10 else 2147483647) else 15)) else (bif Nat.ble 6 n then (bif Nat.ble 16 n then (bif Nat.ble 26 n then 20 else 999) else 2) else (bif Nat.ble 2 n then (bif Nat.ble 3 n then 2147483647 else 150) else 2147483647)))
noncomputable def zk_llo (n : Nat) : Int := bif Nat.ble 16 n then (-2147483648) else -(n : Int)
noncomputable def zk_lhi (n : Nat) : Int := bif Nat.ble 16 n then 2147483647 else 15 - (n : Int)
noncomputable def zk_mlo (n : Nat) : Int := bif Nat.ble 32 n then (-2147483648) else -((n % 4 : Nat) : Int)
noncomputable def zk_mhi (n : Nat) : Int := bif Nat.ble 32 n then 2147483647 else 3 - ((n % 4 : Nat) : Int)
noncomputable def zk_wd (n : Nat) : Int := (bif Nat.ble 64 n then (bif Nat.ble 96 n then (bif Nat.ble 112 n then (bif Nat.ble 120 n then (bif Nat.ble 124 n then (bif Nat.ble 126 n then (bif Nat.ble 127 n then (bif Nat.ble 128 n then (bif Nat.beq n 128 then 32 else 0) else (bif Nat.beq n 127 then 108 else 0)) else (bif Nat.beq n 126 then 108 else 0)) else (bif Nat.ble 125 n then (bif Nat.beq n 125 then 101 else 0) else (bif Nat.beq n 124 then 116 else 0))) else (bif Nat.ble 122 n then (bif Nat.ble 123 n then (bif Nat.beq n 123 then 32 else 0) else (bif Nat.beq n 122 then 110 else 0)) else (bif Nat.ble 121 n then (bif Nat.beq n 121 then 101 else 0) else (bif Nat.beq n 120 then 112 else 0)))) else (bif Nat.ble 116 n then (bif Nat.ble 118 n then (bif Nat.ble 119 n then (bif Nat.beq n 119 then 111 else 0) else (bif Nat.beq n 118 then 32 else 0)) else (bif Nat.ble 117 n then (bif Nat.beq n 117 then 100 else 0) else (bif Nat.beq n 116 then 97 else 0))) else (bif Nat.ble 114 n then (bif Nat.ble 115 n then (bif Nat.beq n 115 then 101 else 0) else (bif Nat.beq n 114 then 108 else 0)) else (bif Nat.ble 113 n then (bif Nat.beq n 113 then 32 else 0) else (bif Nat.beq n 112 then 100 else 0))))) else (bif Nat.ble 104 n then (bif Nat.ble 108 n then (bif Nat.ble 110 n then (bif Nat.ble 111 n then (bif Nat.beq n 111 then 110 else 0) else (bif Nat.beq n 110 then 101 else 0)) else (bif Nat.ble 109 n then (bif Nat.beq n 109 then 109 else 0) else (bif Nat.beq n 108 then 32 else 0))) else (bif Nat.ble 106 n then (bif Nat.ble 107 n then (bif Nat.beq n 107 then 114 else 0) else (bif Nat.beq n 106 then 97 else 0)) else (bif Nat.ble 105 n then (bif Nat.beq n 105 then 106 else 0) else (bif Nat.beq n 104 then 32 else 0)))) else (bif Nat.ble 100 n then (bif Nat.ble 102 n then (bif Nat.ble 103 n then (bif Nat.beq n 103 then 101 else 0) else (bif Nat.beq n 102 then 115 else 0)) else (bif Nat.ble 101 n then (bif Nat.beq n 101 then 105 else 0) else (bif Nat.beq n 100 then 114 else 0))) else (bif Nat.ble 98 n then (bif Nat.ble 99 n then (bif Nat.beq n 99 then 32 else 0) else (bif Nat.beq n 98 then 116 else 0)) else (bif Nat.ble 97 n then (bif Nat.beq n 97 then 97 else 0) else (bif Nat.beq n 96 then 32 else 0)))))) else (bif Nat.ble 80 n then (bif Nat.ble 88 n then (bif Nat.ble 92 n then (bif Nat.ble 94 n then (bif Nat.ble 95 n then (bif Nat.beq n 95 then 116 else 0) else (bif Nat.beq n 94 then 97 else 0)) else (bif Nat.ble 93 n then (bif Nat.beq n 93 then 101 else 0) else (bif Nat.beq n 92 then 115 else 0))) else (bif Nat.ble 90 n then (bif Nat.ble 91 n then (bif Nat.beq n 91 then 32 else 0) else (bif Nat.beq n 90 then 110 else 0)) else (bif Nat.ble 89 n then (bif Nat.beq n 89 then 111 else 0) else (bif Nat.beq n 88 then 32 else 0)))) else (bif Nat.ble 84 n then (bif Nat.ble 86 n then (bif Nat.ble 87 n then (bif Nat.beq n 87 then 111 else 0) else (bif Nat.beq n 86 then 116 else 0)) else (bif Nat.ble 85 n then (bif Nat.beq n 85 then 110 else 0) else (bif Nat.beq n 84 then 105 else 0))) else (bif Nat.ble 82 n then (bif Nat.ble 83 n then (bif Nat.beq n 83 then 32 else 0) else (bif Nat.beq n 82 then 116 else 0)) else (bif Nat.ble 81 n then (bif Nat.beq n 81 then 117 else 0) else (bif Nat.beq n 80 then 111 else 0))))) else (bif Nat.ble 72 n then (bif Nat.ble 76 n then (bif Nat.ble 78 n then (bif Nat.ble 79 n then (bif Nat.beq n 79 then 112 else 0) else (bif Nat.beq n 78 then 115 else 0)) else (bif Nat.ble 77 n then (bif Nat.beq n 77 then 32 else 0) else (bif Nat.beq n 76 then 121 else 0))) else (bif Nat.ble 74 n then (bif Nat.ble 75 n then (bif Nat.beq n 75 then 97 else 0) else (bif Nat.beq n 74 then 100 else 0)) else (bif Nat.ble 73 n then (bif Nat.beq n 73 then 32 else 0) else (bif Nat.beq n 72 then 100 else 0)))) else (bif Nat.ble 68 n then (bif Nat.ble 70 n then (bif Nat.ble 71 n then (bif Nat.beq n 71 then 114 else 0) else (bif Nat.beq n 70 then 111 else 0)) else (bif Nat.ble 69 n then (bif Nat.beq n 69 then 119 else 0) else (bif Nat.beq n 68 then 32 else 0))) else (bif Nat.ble 66 n then (bif Nat.ble 67 n then (bif Nat.beq n 67 then 121 else 0) else (bif Nat.beq n 66 then 114 else 0)) else (bif Nat.ble 65 n then (bif Nat.beq n 65 then 100 else 0) else (bif Nat.beq n 64 then 32 else 0))))))) else (bif Nat.ble 32 n then (bif Nat.ble 48 n then (bif Nat.ble 56 n then (bif Nat.ble 60 n then (bif Nat.ble 62 n then (bif Nat.ble 63 n then (bif Nat.beq n 63 then 100 else 0) else (bif Nat.beq n 62 then 114 else 0)) else (bif Nat.ble 61 n then (bif Nat.beq n 61 then 97 else 0) else (bif Nat.beq n 60 then 101 else 0))) else (bif Nat.ble 58 n then (bif Nat.ble 59 n then (bif Nat.beq n 59 then 104 else 0) else (bif Nat.beq n 58 then 32 else 0)) else (bif Nat.ble 57 n then (bif Nat.beq n 57 then 110 else 0) else (bif Nat.beq n 56 then 105 else 0)))) else (bif Nat.ble 52 n then (bif Nat.ble 54 n then (bif Nat.ble 55 n then (bif Nat.beq n 55 then 97 else 0) else (bif Nat.beq n 54 then 114 else 0)) else (bif Nat.ble 53 n then (bif Nat.beq n 53 then 32 else 0) else (bif Nat.beq n 52 then 104 else 0))) else (bif Nat.ble 50 n then (bif Nat.ble 51 n then (bif Nat.beq n 51 then 116 else 0) else (bif Nat.beq n 50 then 117 else 0)) else (bif Nat.ble 49 n then (bif Nat.beq n 49 then 111 else 0) else (bif Nat.beq n 48 then 109 else 0))))) else (bif Nat.ble 40 n then (bif Nat.ble 44 n then (bif Nat.ble 46 n then (bif Nat.ble 47 n then (bif Nat.beq n 47 then 32 else 0) else (bif Nat.beq n 46 then 110 else 0)) else (bif Nat.ble 45 n then (bif Nat.beq n 45 then 97 else 0) else (bif Nat.beq n 44 then 101 else 0))) else (bif Nat.ble 42 n then (bif Nat.ble 43 n then (bif Nat.beq n 43 then 108 else 0) else (bif Nat.beq n 42 then 32 else 0)) else (bif Nat.ble 41 n then (bif Nat.beq n 41 then 101 else 0) else (bif Nat.beq n 40 then 100 else 0)))) else (bif Nat.ble 36 n then (bif Nat.ble 38 n then (bif Nat.ble 39 n then (bif Nat.beq n 39 then 105 else 0) else (bif Nat.beq n 38 then 115 else 0)) else (bif Nat.ble 37 n then (bif Nat.beq n 37 then 32 else 0) else (bif Nat.beq n 36 then 101 else 0))) else (bif Nat.ble 34 n then (bif Nat.ble 35 n then (bif Nat.beq n 35 then 110 else 0) else (bif Nat.beq n 34 then 111 else 0)) else (bif Nat.ble 33 n then (bif Nat.beq n 33 then 116 else 0) else (bif Nat.beq n 32 then 115 else 0)))))) else (bif Nat.ble 16 n then (bif Nat.ble 24 n then (bif Nat.ble 28 n then (bif Nat.ble 30 n then (bif Nat.ble 31 n then (bif Nat.beq n 31 then 32 else 0) else (bif Nat.beq n 30 then 116 else 0)) else (bif Nat.ble 29 n then (bif Nat.beq n 29 then 111 else 0) else (bif Nat.beq n 28 then 110 else 0))) else (bif Nat.ble 26 n then (bif Nat.ble 27 n then (bif Nat.beq n 27 then 32 else 0) else (bif Nat.beq n 26 then 100 else 0)) else (bif Nat.ble 25 n then (bif Nat.beq n 25 then 110 else 0) else (bif Nat.beq n 24 then 97 else 0)))) else (bif Nat.ble 20 n then (bif Nat.ble 22 n then (bif Nat.ble 23 n then (bif Nat.beq n 23 then 32 else 0) else (bif Nat.beq n 22 then 114 else 0)) else (bif Nat.ble 21 n then (bif Nat.beq n 21 then 111 else 0) else (bif Nat.beq n 20 then 32 else 0))) else (bif Nat.ble 18 n then (bif Nat.ble 19 n then (bif Nat.beq n 19 then 110 else 0) else (bif Nat.beq n 18 then 101 else 0)) else (bif Nat.ble 17 n then (bif Nat.beq n 17 then 104 else 0) else (bif Nat.beq n 16 then 119 else 0))))) else (bif Nat.ble 8 n then (bif Nat.ble 12 n then (bif Nat.ble 14 n then (bif Nat.ble 15 n then (bif Nat.beq n 15 then 32 else 0) else (bif Nat.beq n 14 then 112 else 0)) else (bif Nat.ble 13 n then (bif Nat.beq n 13 then 105 else 0) else (bif Nat.beq n 12 then 108 else 0))) else (bif Nat.ble 10 n then (bif Nat.ble 11 n then (bif Nat.beq n 11 then 115 else 0) else (bif Nat.beq n 10 then 32 else 0)) else (bif Nat.ble 9 n then (bif Nat.beq n 9 then 116 else 0) else (bif Nat.beq n 8 then 101 else 0)))) else (bif Nat.ble 4 n then (bif Nat.ble 6 n then (bif Nat.ble 7 n then (bif Nat.beq n 7 then 106 else 0) else (bif Nat.beq n 6 then 32 else 0)) else (bif Nat.ble 5 n then (bif Nat.beq n 5 then 115 else 0) else (bif Nat.beq n 4 then 114 else 0))) else (bif Nat.ble 2 n then (bif Nat.ble 3 n then (bif Nat.beq n 3 then 97 else 0) else (bif Nat.beq n 2 then 101 else 0)) else (bif Nat.ble 1 n then (bif Nat.beq n 1 then 104 else 0) else (bif Nat.beq n 0 then 32 else 0))))))))
noncomputable def zk_ilo (n : Nat) : Int := (bif Nat.ble 273 n then (bif Nat.ble 403 n then (bif Nat.ble 1139 n then (bif Nat.ble 1140 n then (bif Nat.ble 1204 n then (-2147483648) else (bif Nat.ble 2 ((n - 1140) % 4) then (bif Nat.ble 3 ((n - 1140) % 4) then (bif Nat.beq ((n - 1140) % 4) 3 then 0 else (-2147483648)) else (bif Nat.beq ((n - 1140) % 4) 2 then 0 else (-2147483648))) else (bif Nat.ble 1 ((n - 1140) % 4) then (bif Nat.beq ((n - 1140) % 4) 1 then 0 else (-2147483648)) else (bif Nat.beq ((n - 1140) % 4) 0 then (-2147483648) else (-2147483648))))) else 0) else (bif Nat.ble 443 n then (-2147483648) else 0)) else (bif Nat.ble 331 n then (bif Nat.ble 355 n then (bif Nat.ble 371 n then zk_mlo (n - 371) else zk_llo (n - 355)) else (bif Nat.beq ((n - 331) % 2) 0 then 0 else 0)) else (bif Nat.ble 323 n then 0 else (bif Nat.ble 2 ((n - 273) % 5) then (bif Nat.ble 3 ((n - 273) % 5) then (bif Nat.ble 4 ((n - 273) % 5) then (bif Nat.beq ((n - 273) % 5) 4 then 0 else (-2147483648)) else (bif Nat.beq ((n - 273) % 5) 3 then 0 else (-2147483648))) else (bif Nat.beq ((n - 273) % 5) 2 then 0 else (-2147483648))) else (bif Nat.ble 1 ((n - 273) % 5) then (bif Nat.beq ((n - 273) % 5) 1 then 0 else (-2147483648)) else (bif Nat.beq ((n - 273) % 5) 0 then 0 else (-2147483648))))))) else (bif Nat.ble 268 n then (bif Nat.ble 270 n then (bif Nat.ble 271 n then (bif Nat.ble 272 n then 0 else 0) else 0) else (bif Nat.ble 269 n then 0 else 0)) else (bif Nat.ble 265 n then (bif Nat.ble 266 n then (bif Nat.ble 267 n then 0 else 0) else 0) else (bif Nat.ble 264 n then 0 else zk_nlo n))))
noncomputable def zk_ihi (n : Nat) : Int := (bif Nat.ble 273 n then (bif Nat.ble 403 n then (bif Nat.ble 1139 n then (bif Nat.ble 1140 n then (bif Nat.ble 1204 n then 2147483647 else (bif Nat.ble 2 ((n - 1140) % 4) then (bif Nat.ble 3 ((n - 1140) % 4) then (bif Nat.beq ((n - 1140) % 4) 3 then 400 else 2147483647) else (bif Nat.beq ((n - 1140) % 4) 2 then 400 else 2147483647)) else (bif Nat.ble 1 ((n - 1140) % 4) then (bif Nat.beq ((n - 1140) % 4) 1 then 400 else 2147483647) else (bif Nat.beq ((n - 1140) % 4) 0 then 2147483647 else 2147483647)))) else 16) else (bif Nat.ble 443 n then 2147483647 else 9)) else (bif Nat.ble 331 n then (bif Nat.ble 355 n then (bif Nat.ble 371 n then zk_mhi (n - 371) else zk_lhi (n - 355)) else (bif Nat.beq ((n - 331) % 2) 0 then 79 else 60)) else (bif Nat.ble 323 n then 1023 else (bif Nat.ble 2 ((n - 273) % 5) then (bif Nat.ble 3 ((n - 273) % 5) then (bif Nat.ble 4 ((n - 273) % 5) then (bif Nat.beq ((n - 273) % 5) 4 then 1023 else 2147483647) else (bif Nat.beq ((n - 273) % 5) 3 then 10 else 2147483647)) else (bif Nat.beq ((n - 273) % 5) 2 then 99 else 2147483647)) else (bif Nat.ble 1 ((n - 273) % 5) then (bif Nat.beq ((n - 273) % 5) 1 then 3 else 2147483647) else (bif Nat.beq ((n - 273) % 5) 0 then 5 else 2147483647)))))) else (bif Nat.ble 268 n then (bif Nat.ble 270 n then (bif Nat.ble 271 n then (bif Nat.ble 272 n then 12 else 40) else 14) else (bif Nat.ble 269 n then 12 else 16)) else (bif Nat.ble 265 n then (bif Nat.ble 266 n then (bif Nat.ble 267 n then 16 else 16) else 8) else (bif Nat.ble 264 n then 10 else zk_nhi n))))
noncomputable def zk_lo (a : Nat) (i : Int) : Int := (bif Nat.ble 130 a then (bif Nat.ble 186 a then (bif Nat.ble 218 a then (bif Nat.ble 238 a then (bif Nat.ble 245 a then (bif Nat.ble 248 a then (bif Nat.ble 249 a then (bif Nat.ble 250 a then (bif Nat.beq a 250 then zk_ilo i.toNat else (-2147483648)) else (bif Nat.beq a 249 then 0 else (-2147483648))) else (bif Nat.beq a 248 then 0 else (-2147483648))) else (bif Nat.ble 246 a then (bif Nat.ble 247 a then (bif Nat.beq a 247 then 0 else (-2147483648)) else (bif Nat.beq a 246 then 0 else (-2147483648))) else (bif Nat.beq a 245 then 0 else (-2147483648)))) else (bif Nat.ble 242 a then (bif Nat.ble 243 a then (bif Nat.ble 244 a then (bif Nat.beq a 244 then zk_mlo i.toNat else (-2147483648)) else (bif Nat.beq a 243 then zk_llo i.toNat else (-2147483648))) else (bif Nat.beq a 242 then 0 else (-2147483648))) else (bif Nat.ble 239 a then (bif Nat.ble 240 a then (bif Nat.beq a 240 then 0 else (-2147483648)) else (bif Nat.beq a 239 then 0 else (-2147483648))) else (bif Nat.beq a 238 then 0 else (-2147483648))))) else (bif Nat.ble 224 a then (bif Nat.ble 228 a then (bif Nat.ble 232 a then (bif Nat.ble 237 a then (bif Nat.beq a 237 then 0 else (-2147483648)) else (bif Nat.beq a 232 then 0 else (-2147483648))) else (bif Nat.beq a 228 then 0 else (-2147483648))) else (bif Nat.ble 226 a then (bif Nat.ble 227 a then (bif Nat.beq a 227 then 0 else (-2147483648)) else (bif Nat.beq a 226 then 0 else (-2147483648))) else (bif Nat.beq a 224 then 0 else (-2147483648)))) else (bif Nat.ble 220 a then (bif Nat.ble 222 a then (bif Nat.ble 223 a then (bif Nat.beq a 223 then zk_wd i.toNat else (-2147483648)) else (bif Nat.beq a 222 then 0 else (-2147483648))) else (bif Nat.beq a 220 then 0 else (-2147483648))) else (bif Nat.ble 219 a then (bif Nat.beq a 219 then 0 else (-2147483648)) else (bif Nat.beq a 218 then 0 else (-2147483648)))))) else (bif Nat.ble 198 a then (bif Nat.ble 207 a then (bif Nat.ble 215 a then (bif Nat.ble 216 a then (bif Nat.ble 217 a then (bif Nat.beq a 217 then zk_nlo i.toNat else (-2147483648)) else (bif Nat.beq a 216 then zk_nlo (i.toNat % 264) else (-2147483648))) else (bif Nat.beq a 215 then zk_nlo i.toNat else (-2147483648))) else (bif Nat.ble 212 a then (bif Nat.ble 214 a then (bif Nat.beq a 214 then (bif Nat.ble 32 i.toNat then (bif Nat.ble 46 i.toNat then (bif Nat.ble 58 i.toNat then (bif Nat.ble 62 i.toNat then (bif Nat.ble 63 i.toNat then (bif Nat.beq i.toNat 63 then 0 else (-2147483648)) else (bif Nat.beq i.toNat 62 then 0 else (-2147483648))) else (bif Nat.ble 61 i.toNat then (bif Nat.beq i.toNat 61 then 0 else (-2147483648)) else (bif Nat.beq i.toNat 58 then 0 else (-2147483648)))) else (bif Nat.ble 50 i.toNat then (bif Nat.ble 56 i.toNat then (bif Nat.beq i.toNat 56 then 0 else (-2147483648)) else (bif Nat.beq i.toNat 50 then 0 else (-2147483648))) else (bif Nat.beq i.toNat 46 then 0 else (-2147483648)))) else (bif Nat.ble 35 i.toNat then (bif Nat.ble 39 i.toNat then (bif Nat.ble 43 i.toNat then (bif Nat.beq i.toNat 43 then 0 else (-2147483648)) else (bif Nat.beq i.toNat 39 then 0 else (-2147483648))) else (bif Nat.ble 37 i.toNat then (bif Nat.beq i.toNat 37 then 0 else (-2147483648)) else (bif Nat.beq i.toNat 35 then 0 else (-2147483648)))) else (bif Nat.ble 33 i.toNat then (bif Nat.ble 34 i.toNat then (bif Nat.beq i.toNat 34 then (-1) else (-2147483648)) else (bif Nat.beq i.toNat 33 then 0 else (-2147483648))) else (bif Nat.beq i.toNat 32 then 0 else (-2147483648))))) else (bif Nat.ble 16 i.toNat then (bif Nat.ble 27 i.toNat then (bif Nat.ble 30 i.toNat then (bif Nat.ble 31 i.toNat then (bif Nat.beq i.toNat 31 then 0 else (-2147483648)) else (bif Nat.beq i.toNat 30 then 0 else (-2147483648))) else (bif Nat.ble 28 i.toNat then (bif Nat.beq i.toNat 28 then 0 else (-2147483648)) else (bif Nat.beq i.toNat 27 then 0 else (-2147483648)))) else (bif Nat.ble 17 i.toNat then (bif Nat.ble 26 i.toNat then (bif Nat.beq i.toNat 26 then 0 else (-2147483648)) else (bif Nat.beq i.toNat 17 then (-1) else (-2147483648))) else (bif Nat.beq i.toNat 16 then 0 else (-2147483648)))) else (bif Nat.ble 7 i.toNat then (bif Nat.ble 14 i.toNat then (bif Nat.ble 15 i.toNat then (bif Nat.beq i.toNat 15 then 0 else (-2147483648)) else (bif Nat.beq i.toNat 14 then 0 else (-2147483648))) else (bif Nat.ble 13 i.toNat then (bif Nat.beq i.toNat 13 then 0 else (-2147483648)) else (bif Nat.beq i.toNat 7 then 0 else (-2147483648)))) else (bif Nat.ble 5 i.toNat then (bif Nat.ble 6 i.toNat then (bif Nat.beq i.toNat 6 then 0 else (-2147483648)) else (bif Nat.beq i.toNat 5 then 0 else (-2147483648))) else (bif Nat.beq i.toNat 3 then 0 else (-2147483648)))))) else (-2147483648)) else (bif Nat.beq a 212 then (bif Nat.ble 2 i.toNat then (bif Nat.ble 3 i.toNat then (bif Nat.beq i.toNat 3 then 0 else (-2147483648)) else (bif Nat.beq i.toNat 2 then 0 else (-2147483648))) else (bif Nat.beq i.toNat 1 then 0 else (-2147483648))) else (-2147483648))) else (bif Nat.beq a 207 then 0 else (-2147483648)))) else (bif Nat.ble 201 a then (bif Nat.ble 202 a then (bif Nat.ble 205 a then (bif Nat.beq a 205 then (-1) else (-2147483648)) else (bif Nat.beq a 202 then 0 else (-2147483648))) else (bif Nat.beq a 201 then 0 else (-2147483648))) else (bif Nat.ble 200 a then (bif Nat.beq a 200 then 0 else (-2147483648)) else (bif Nat.beq a 198 then 0 else (-2147483648))))) else (bif Nat.ble 191 a then (bif Nat.ble 194 a then (bif Nat.ble 195 a then (bif Nat.ble 196 a then (bif Nat.beq a 196 then (bif Nat.ble 7 i.toNat then (bif Nat.beq i.toNat 7 then 0 else (-2147483648)) else (bif Nat.beq i.toNat 2 then 0 else (-2147483648))) else (-2147483648)) else (bif Nat.beq a 195 then (bif Nat.ble 5 i.toNat then (bif Nat.ble 10 i.toNat then (bif Nat.beq i.toNat 10 then 0 else (-2147483648)) else (bif Nat.beq i.toNat 5 then 0 else (-2147483648))) else (bif Nat.beq i.toNat 2 then 0 else (-2147483648))) else (-2147483648))) else (bif Nat.beq a 194 then 0 else (-2147483648))) else (bif Nat.ble 192 a then (bif Nat.ble 193 a then (bif Nat.beq a 193 then (-1) else (-2147483648)) else (bif Nat.beq a 192 then 0 else (-2147483648))) else (bif Nat.beq a 191 then (bif Nat.ble 5 i.toNat then (bif Nat.ble 6 i.toNat then (bif Nat.beq i.toNat 6 then (-1) else (-2147483648)) else (bif Nat.beq i.toNat 5 then 0 else (-2147483648))) else (bif Nat.ble 4 i.toNat then (bif Nat.beq i.toNat 4 then 0 else (-2147483648)) else (bif Nat.beq i.toNat 3 then 0 else (-2147483648)))) else (-2147483648)))) else (bif Nat.ble 188 a then (bif Nat.ble 189 a then (bif Nat.ble 190 a then (bif Nat.beq a 190 then 0 else (-2147483648)) else (bif Nat.beq a 189 then 0 else (-2147483648))) else (bif Nat.beq a 188 then 0 else (-2147483648))) else (bif Nat.ble 187 a then (bif Nat.beq a 187 then (-1) else (-2147483648)) else (bif Nat.beq a 186 then (-1) else (-2147483648))))))) else (bif Nat.ble 156 a then (bif Nat.ble 169 a then (bif Nat.ble 177 a then (bif Nat.ble 180 a then (bif Nat.ble 182 a then (bif Nat.ble 184 a then (bif Nat.beq a 184 then (-1) else (-2147483648)) else (bif Nat.beq a 182 then 0 else (-2147483648))) else (bif Nat.beq a 180 then (bif Nat.ble 6 i.toNat then (bif Nat.ble 11 i.toNat then (bif Nat.beq i.toNat 11 then 0 else (-2147483648)) else (bif Nat.beq i.toNat 6 then (-1) else (-2147483648))) else (bif Nat.beq i.toNat 5 then 0 else (-2147483648))) else (-2147483648))) else (bif Nat.ble 178 a then (bif Nat.ble 179 a then (bif Nat.beq a 179 then 0 else (-2147483648)) else (bif Nat.beq a 178 then 0 else (-2147483648))) else (bif Nat.beq a 177 then (bif Nat.beq i.toNat 2 then 0 else (-2147483648)) else (-2147483648)))) else (bif Nat.ble 172 a then (bif Nat.ble 174 a then (bif Nat.ble 175 a then (bif Nat.beq a 175 then (-1) else (-2147483648)) else (bif Nat.beq a 174 then (-1) else (-2147483648))) else (bif Nat.beq a 172 then 0 else (-2147483648))) else (bif Nat.ble 170 a then (bif Nat.ble 171 a then (bif Nat.beq a 171 then 0 else (-2147483648)) else (bif Nat.beq a 170 then 0 else (-2147483648))) else (bif Nat.beq a 169 then 0 else (-2147483648))))) else (bif Nat.ble 162 a then (bif Nat.ble 166 a then (bif Nat.ble 167 a then (bif Nat.ble 168 a then (bif Nat.beq a 168 then 0 else (-2147483648)) else (bif Nat.beq a 167 then 0 else (-2147483648))) else (bif Nat.beq a 166 then 0 else (-2147483648))) else (bif Nat.ble 163 a then (bif Nat.ble 165 a then (bif Nat.beq a 165 then (bif Nat.ble 11 i.toNat then (bif Nat.ble 14 i.toNat then (bif Nat.ble 19 i.toNat then (bif Nat.beq i.toNat 19 then 0 else (-2147483648)) else (bif Nat.beq i.toNat 14 then 0 else (-2147483648))) else (bif Nat.beq i.toNat 11 then 0 else (-2147483648))) else (bif Nat.ble 8 i.toNat then (bif Nat.beq i.toNat 8 then 0 else (-2147483648)) else (bif Nat.beq i.toNat 0 then 0 else (-2147483648)))) else (-2147483648)) else (bif Nat.beq a 163 then (-1) else (-2147483648))) else (bif Nat.beq a 162 then (-1) else (-2147483648)))) else (bif Nat.ble 158 a then (bif Nat.ble 159 a then (bif Nat.ble 160 a then (bif Nat.beq a 160 then 0 else (-2147483648)) else (bif Nat.beq a 159 then 0 else (-2147483648))) else (bif Nat.beq a 158 then 0 else (-2147483648))) else (bif Nat.ble 157 a then (bif Nat.beq a 157 then 0 else (-2147483648)) else (bif Nat.beq a 156 then 0 else (-2147483648)))))) else (bif Nat.ble 143 a then (bif Nat.ble 148 a then (bif Nat.ble 153 a then (bif Nat.ble 154 a then (bif Nat.ble 155 a then (bif Nat.beq a 155 then 0 else (-2147483648)) else (bif Nat.beq a 154 then 0 else (-2147483648))) else (bif Nat.beq a 153 then (bif Nat.ble 11 i.toNat then (bif Nat.ble 14 i.toNat then (bif Nat.ble 19 i.toNat then (bif Nat.beq i.toNat 19 then 0 else (-2147483648)) else (bif Nat.beq i.toNat 14 then 0 else (-2147483648))) else (bif Nat.beq i.toNat 11 then 0 else (-2147483648))) else (bif Nat.ble 8 i.toNat then (bif Nat.beq i.toNat 8 then 0 else (-2147483648)) else (bif Nat.beq i.toNat 0 then 0 else (-2147483648)))) else (-2147483648))) else (bif Nat.ble 150 a then (bif Nat.ble 151 a then (bif Nat.beq a 151 then (-1) else (-2147483648)) else (bif Nat.beq a 150 then (-1) else (-2147483648))) else (bif Nat.beq a 148 then 0 else (-2147483648)))) else (bif Nat.ble 145 a then (bif Nat.ble 146 a then (bif Nat.ble 147 a then (bif Nat.beq a 147 then 0 else (-2147483648)) else (bif Nat.beq a 146 then 0 else (-2147483648))) else (bif Nat.beq a 145 then 0 else (-2147483648))) else (bif Nat.ble 144 a then (bif Nat.beq a 144 then 0 else (-2147483648)) else (bif Nat.beq a 143 then 0 else (-2147483648))))) else (bif Nat.ble 135 a then (bif Nat.ble 139 a then (bif Nat.ble 141 a then (bif Nat.ble 142 a then (bif Nat.beq a 142 then 0 else (-2147483648)) else (bif Nat.beq a 141 then (bif Nat.ble 11 i.toNat then (bif Nat.ble 14 i.toNat then (bif Nat.ble 19 i.toNat then (bif Nat.beq i.toNat 19 then 0 else (-2147483648)) else (bif Nat.beq i.toNat 14 then 0 else (-2147483648))) else (bif Nat.beq i.toNat 11 then 0 else (-2147483648))) else (bif Nat.ble 8 i.toNat then (bif Nat.beq i.toNat 8 then 0 else (-2147483648)) else (bif Nat.beq i.toNat 0 then 0 else (-2147483648)))) else (-2147483648))) else (bif Nat.beq a 139 then (-1) else (-2147483648))) else (bif Nat.ble 136 a then (bif Nat.ble 138 a then (bif Nat.beq a 138 then (-1) else (-2147483648)) else (bif Nat.beq a 136 then 0 else (-2147483648))) else (bif Nat.beq a 135 then 0 else (-2147483648)))) else (bif Nat.ble 132 a then (bif Nat.ble 133 a then (bif Nat.ble 134 a then (bif Nat.beq a 134 then 0 else (-2147483648)) else (bif Nat.beq a 133 then 0 else (-2147483648))) else (bif Nat.beq a 132 then 0 else (-2147483648))) else (bif Nat.ble 131 a then (bif Nat.beq a 131 then 0 else (-2147483648)) else (bif Nat.beq a 130 then 0 else (-2147483648)))))))) else (bif Nat.ble 71 a then (bif Nat.ble 102 a then (bif Nat.ble 115 a then (bif Nat.ble 122 a then (bif Nat.ble 126 a then (bif Nat.ble 127 a then (bif Nat.ble 129 a then (bif Nat.beq a 129 then (bif Nat.ble 11 i.toNat then (bif Nat.ble 14 i.toNat then (bif Nat.ble 19 i.toNat then (bif Nat.beq i.toNat 19 then 0 else (-2147483648)) else (bif Nat.beq i.toNat 14 then 0 else (-2147483648))) else (bif Nat.beq i.toNat 11 then 0 else (-2147483648))) else (bif Nat.ble 8 i.toNat then (bif Nat.beq i.toNat 8 then 0 else (-2147483648)) else (bif Nat.beq i.toNat 0 then 0 else (-2147483648)))) else (-2147483648)) else (bif Nat.beq a 127 then (-1) else (-2147483648))) else (bif Nat.beq a 126 then (-1) else (-2147483648))) else (bif Nat.ble 123 a then (bif Nat.ble 124 a then (bif Nat.beq a 124 then 0 else (-2147483648)) else (bif Nat.beq a 123 then 0 else (-2147483648))) else (bif Nat.beq a 122 then 0 else (-2147483648)))) else (bif Nat.ble 119 a then (bif Nat.ble 120 a then (bif Nat.ble 121 a then (bif Nat.beq a 121 then 0 else (-2147483648)) else (bif Nat.beq a 120 then 0 else (-2147483648))) else (bif Nat.beq a 119 then 0 else (-2147483648))) else (bif Nat.ble 117 a then (bif Nat.ble 118 a then (bif Nat.beq a 118 then 0 else (-2147483648)) else (bif Nat.beq a 117 then (bif Nat.ble 11 i.toNat then (bif Nat.ble 14 i.toNat then (bif Nat.ble 19 i.toNat then (bif Nat.beq i.toNat 19 then 0 else (-2147483648)) else (bif Nat.beq i.toNat 14 then 0 else (-2147483648))) else (bif Nat.beq i.toNat 11 then 0 else (-2147483648))) else (bif Nat.ble 8 i.toNat then (bif Nat.beq i.toNat 8 then 0 else (-2147483648)) else (bif Nat.beq i.toNat 0 then 0 else (-2147483648)))) else (-2147483648))) else (bif Nat.beq a 115 then (-1) else (-2147483648))))) else (bif Nat.ble 108 a then (bif Nat.ble 111 a then (bif Nat.ble 112 a then (bif Nat.ble 114 a then (bif Nat.beq a 114 then (-1) else (-2147483648)) else (bif Nat.beq a 112 then 0 else (-2147483648))) else (bif Nat.beq a 111 then 0 else (-2147483648))) else (bif Nat.ble 109 a then (bif Nat.ble 110 a then (bif Nat.beq a 110 then 0 else (-2147483648)) else (bif Nat.beq a 109 then 0 else (-2147483648))) else (bif Nat.beq a 108 then 0 else (-2147483648)))) else (bif Nat.ble 105 a then (bif Nat.ble 106 a then (bif Nat.ble 107 a then (bif Nat.beq a 107 then 0 else (-2147483648)) else (bif Nat.beq a 106 then 0 else (-2147483648))) else (bif Nat.beq a 105 then (bif Nat.ble 11 i.toNat then (bif Nat.ble 14 i.toNat then (bif Nat.ble 19 i.toNat then (bif Nat.beq i.toNat 19 then 0 else (-2147483648)) else (bif Nat.beq i.toNat 14 then 0 else (-2147483648))) else (bif Nat.beq i.toNat 11 then 0 else (-2147483648))) else (bif Nat.ble 8 i.toNat then (bif Nat.beq i.toNat 8 then 0 else (-2147483648)) else (bif Nat.beq i.toNat 0 then 0 else (-2147483648)))) else (-2147483648))) else (bif Nat.ble 103 a then (bif Nat.beq a 103 then (-1) else (-2147483648)) else (bif Nat.beq a 102 then (-1) else (-2147483648)))))) else (bif Nat.ble 89 a then (bif Nat.ble 95 a then (bif Nat.ble 98 a then (bif Nat.ble 99 a then (bif Nat.ble 100 a then (bif Nat.beq a 100 then 0 else (-2147483648)) else (bif Nat.beq a 99 then 0 else (-2147483648))) else (bif Nat.beq a 98 then 0 else (-2147483648))) else (bif Nat.ble 96 a then (bif Nat.ble 97 a then (bif Nat.beq a 97 then 0 else (-2147483648)) else (bif Nat.beq a 96 then 0 else (-2147483648))) else (bif Nat.beq a 95 then 0 else (-2147483648)))) else (bif Nat.ble 91 a then (bif Nat.ble 93 a then (bif Nat.ble 94 a then (bif Nat.beq a 94 then 0 else (-2147483648)) else (bif Nat.beq a 93 then (bif Nat.ble 11 i.toNat then (bif Nat.ble 14 i.toNat then (bif Nat.ble 19 i.toNat then (bif Nat.beq i.toNat 19 then 0 else (-2147483648)) else (bif Nat.beq i.toNat 14 then 0 else (-2147483648))) else (bif Nat.beq i.toNat 11 then 0 else (-2147483648))) else (bif Nat.ble 8 i.toNat then (bif Nat.beq i.toNat 8 then 0 else (-2147483648)) else (bif Nat.beq i.toNat 0 then 0 else (-2147483648)))) else (-2147483648))) else (bif Nat.beq a 91 then (bif Nat.ble 2 i.toNat then (bif Nat.beq i.toNat 2 then 0 else (-2147483648)) else (bif Nat.beq i.toNat 1 then 0 else (-2147483648))) else (-2147483648))) else (bif Nat.ble 90 a then (bif Nat.beq a 90 then 0 else (-2147483648)) else (bif Nat.beq a 89 then 0 else (-2147483648))))) else (bif Nat.ble 83 a then (bif Nat.ble 86 a then (bif Nat.ble 87 a then (bif Nat.ble 88 a then (bif Nat.beq a 88 then 0 else (-2147483648)) else (bif Nat.beq a 87 then 0 else (-2147483648))) else (bif Nat.beq a 86 then 0 else (-2147483648))) else (bif Nat.ble 84 a then (bif Nat.ble 85 a then (bif Nat.beq a 85 then 0 else (-2147483648)) else (bif Nat.beq a 84 then 0 else (-2147483648))) else (bif Nat.beq a 83 then 0 else (-2147483648)))) else (bif Nat.ble 76 a then (bif Nat.ble 81 a then (bif Nat.ble 82 a then (bif Nat.beq a 82 then 0 else (-2147483648)) else (bif Nat.beq a 81 then (bif Nat.ble 10 i.toNat then (bif Nat.ble 12 i.toNat then (bif Nat.beq i.toNat 12 then 0 else (-2147483648)) else (bif Nat.beq i.toNat 10 then 0 else (-2147483648))) else (bif Nat.ble 5 i.toNat then (bif Nat.beq i.toNat 5 then 0 else (-2147483648)) else (bif Nat.beq i.toNat 2 then 0 else (-2147483648)))) else (-2147483648))) else (bif Nat.beq a 76 then 0 else (-2147483648))) else (bif Nat.ble 74 a then (bif Nat.beq a 74 then (-1) else (-2147483648)) else (bif Nat.beq a 71 then 0 else (-2147483648))))))) else (bif Nat.ble 39 a then (bif Nat.ble 51 a then (bif Nat.ble 57 a then (bif Nat.ble 67 a then (bif Nat.ble 69 a then (bif Nat.ble 70 a then (bif Nat.beq a 70 then 0 else (-2147483648)) else (bif Nat.beq a 69 then 0 else (-2147483648))) else (bif Nat.beq a 67 then 0 else (-2147483648))) else (bif Nat.ble 64 a then (bif Nat.ble 65 a then (bif Nat.beq a 65 then (bif Nat.ble 7 i.toNat then (bif Nat.beq i.toNat 7 then 0 else (-2147483648)) else (bif Nat.beq i.toNat 2 then 0 else (-2147483648))) else (-2147483648)) else (bif Nat.beq a 64 then (bif Nat.ble 5 i.toNat then (bif Nat.ble 10 i.toNat then (bif Nat.beq i.toNat 10 then 0 else (-2147483648)) else (bif Nat.beq i.toNat 5 then 0 else (-2147483648))) else (bif Nat.beq i.toNat 2 then 0 else (-2147483648))) else (-2147483648))) else (bif Nat.beq a 57 then (-1) else (-2147483648)))) else (bif Nat.ble 53 a then (bif Nat.ble 54 a then (bif Nat.ble 56 a then (bif Nat.beq a 56 then (-1) else (-2147483648)) else (bif Nat.beq a 54 then 0 else (-2147483648))) else (bif Nat.beq a 53 then 0 else (-2147483648))) else (bif Nat.ble 52 a then (bif Nat.beq a 52 then 0 else (-2147483648)) else (bif Nat.beq a 51 then 0 else (-2147483648))))) else (bif Nat.ble 44 a then (bif Nat.ble 48 a then (bif Nat.ble 49 a then (bif Nat.ble 50 a then (bif Nat.beq a 50 then 0 else (-2147483648)) else (bif Nat.beq a 49 then 0 else (-2147483648))) else (bif Nat.beq a 48 then 0 else (-2147483648))) else (bif Nat.ble 45 a then (bif Nat.ble 47 a then (bif Nat.beq a 47 then (bif Nat.ble 11 i.toNat then (bif Nat.ble 14 i.toNat then (bif Nat.ble 19 i.toNat then (bif Nat.beq i.toNat 19 then 0 else (-2147483648)) else (bif Nat.beq i.toNat 14 then 0 else (-2147483648))) else (bif Nat.beq i.toNat 11 then 0 else (-2147483648))) else (bif Nat.ble 8 i.toNat then (bif Nat.beq i.toNat 8 then 0 else (-2147483648)) else (bif Nat.beq i.toNat 0 then 0 else (-2147483648)))) else (-2147483648)) else (bif Nat.beq a 45 then 0 else (-2147483648))) else (bif Nat.beq a 44 then 0 else (-2147483648)))) else (bif Nat.ble 41 a then (bif Nat.ble 42 a then (bif Nat.ble 43 a then (bif Nat.beq a 43 then 0 else (-2147483648)) else (bif Nat.beq a 42 then 0 else (-2147483648))) else (bif Nat.beq a 41 then 0 else (-2147483648))) else (bif Nat.ble 40 a then (bif Nat.beq a 40 then 0 else (-2147483648)) else (bif Nat.beq a 39 then 0 else (-2147483648)))))) else (bif Nat.ble 19 a then (bif Nat.ble 26 a then (bif Nat.ble 36 a then (bif Nat.ble 37 a then (bif Nat.ble 38 a then (bif Nat.beq a 38 then 0 else (-2147483648)) else (bif Nat.beq a 37 then 0 else (-2147483648))) else (bif Nat.beq a 36 then (bif Nat.ble 10 i.toNat then (bif Nat.ble 12 i.toNat then (bif Nat.beq i.toNat 12 then 0 else (-2147483648)) else (bif Nat.beq i.toNat 10 then 0 else (-2147483648))) else (bif Nat.ble 5 i.toNat then (bif Nat.beq i.toNat 5 then 0 else (-2147483648)) else (bif Nat.beq i.toNat 2 then 0 else (-2147483648)))) else (-2147483648))) else (bif Nat.ble 29 a then (bif Nat.ble 31 a then (bif Nat.beq a 31 then 0 else (-2147483648)) else (bif Nat.beq a 29 then (-1) else (-2147483648))) else (bif Nat.beq a 26 then 0 else (-2147483648)))) else (bif Nat.ble 22 a then (bif Nat.ble 24 a then (bif Nat.ble 25 a then (bif Nat.beq a 25 then 0 else (-2147483648)) else (bif Nat.beq a 24 then 0 else (-2147483648))) else (bif Nat.beq a 22 then 0 else (-2147483648))) else (bif Nat.ble 20 a then (bif Nat.beq a 20 then (bif Nat.ble 7 i.toNat then (bif Nat.beq i.toNat 7 then 0 else (-2147483648)) else (bif Nat.beq i.toNat 2 then 0 else (-2147483648))) else (-2147483648)) else (bif Nat.beq a 19 then (bif Nat.ble 5 i.toNat then (bif Nat.ble 10 i.toNat then (bif Nat.beq i.toNat 10 then 0 else (-2147483648)) else (bif Nat.beq i.toNat 5 then 0 else (-2147483648))) else (bif Nat.beq i.toNat 2 then 0 else (-2147483648))) else (-2147483648))))) else (bif Nat.ble 6 a then (bif Nat.ble 9 a then (bif Nat.ble 11 a then (bif Nat.ble 12 a then (bif Nat.beq a 12 then (-1) else (-2147483648)) else (bif Nat.beq a 11 then (-1) else (-2147483648))) else (bif Nat.beq a 9 then 0 else (-2147483648))) else (bif Nat.ble 7 a then (bif Nat.ble 8 a then (bif Nat.beq a 8 then 0 else (-2147483648)) else (bif Nat.beq a 7 then 0 else (-2147483648))) else (bif Nat.beq a 6 then 0 else (-2147483648)))) else (bif Nat.ble 3 a then (bif Nat.ble 4 a then (bif Nat.ble 5 a then (bif Nat.beq a 5 then 0 else (-2147483648)) else (bif Nat.beq a 4 then 0 else (-2147483648))) else (bif Nat.beq a 3 then 0 else (-2147483648))) else (bif Nat.ble 2 a then (bif Nat.beq a 2 then (bif Nat.ble 11 i.toNat then (bif Nat.ble 14 i.toNat then (bif Nat.ble 19 i.toNat then (bif Nat.beq i.toNat 19 then 0 else (-2147483648)) else (bif Nat.beq i.toNat 14 then 0 else (-2147483648))) else (bif Nat.beq i.toNat 11 then 0 else (-2147483648))) else (bif Nat.ble 8 i.toNat then (bif Nat.beq i.toNat 8 then 0 else (-2147483648)) else (bif Nat.beq i.toNat 0 then 0 else (-2147483648)))) else (-2147483648)) else (bif Nat.beq a 0 then (bif Nat.ble 8 i.toNat then (bif Nat.beq i.toNat 8 then 0 else (-2147483648)) else (bif Nat.beq i.toNat 2 then 0 else (-2147483648))) else (-2147483648)))))))))
noncomputable def zk_hi (a : Nat) (i : Int) : Int := (bif Nat.ble 130 a then (bif Nat.ble 186 a then (bif Nat.ble 218 a then (bif Nat.ble 238 a then (bif Nat.ble 245 a then (bif Nat.ble 248 a then (bif Nat.ble 249 a then (bif Nat.ble 250 a then (bif Nat.beq a 250 then zk_ihi i.toNat else 2147483647) else (bif Nat.beq a 249 then 100000000 else 2147483647)) else (bif Nat.beq a 248 then 60 else 2147483647)) else (bif Nat.ble 246 a then (bif Nat.ble 247 a then (bif Nat.beq a 247 then 9 else 2147483647) else (bif Nat.beq a 246 then 4 else 2147483647)) else (bif Nat.beq a 245 then 4 else 2147483647))) else (bif Nat.ble 242 a then (bif Nat.ble 243 a then (bif Nat.ble 244 a then (bif Nat.beq a 244 then zk_mhi i.toNat else 2147483647) else (bif Nat.beq a 243 then zk_lhi i.toNat else 2147483647)) else (bif Nat.beq a 242 then 1023 else 2147483647)) else (bif Nat.ble 239 a then (bif Nat.ble 240 a then (bif Nat.beq a 240 then 79 else 2147483647) else (bif Nat.beq a 239 then 1023 else 2147483647)) else (bif Nat.beq a 238 then 15 else 2147483647)))) else (bif Nat.ble 224 a then (bif Nat.ble 228 a then (bif Nat.ble 232 a then (bif Nat.ble 237 a then (bif Nat.beq a 237 then 9 else 2147483647) else (bif Nat.beq a 232 then 10 else 2147483647)) else (bif Nat.beq a 228 then 400 else 2147483647)) else (bif Nat.ble 226 a then (bif Nat.ble 227 a then (bif Nat.beq a 227 then 400 else 2147483647) else (bif Nat.beq a 226 then 400 else 2147483647)) else (bif Nat.beq a 224 then 16 else 2147483647))) else (bif Nat.ble 220 a then (bif Nat.ble 222 a then (bif Nat.ble 223 a then (bif Nat.beq a 223 then zk_wd i.toNat else 2147483647) else (bif Nat.beq a 222 then 255 else 2147483647)) else (bif Nat.beq a 220 then 99 else 2147483647)) else (bif Nat.ble 219 a then (bif Nat.beq a 219 then 3 else 2147483647) else (bif Nat.beq a 218 then 5 else 2147483647))))) else (bif Nat.ble 198 a then (bif Nat.ble 207 a then (bif Nat.ble 215 a then (bif Nat.ble 216 a then (bif Nat.ble 217 a then (bif Nat.beq a 217 then zk_nhi i.toNat else 2147483647) else (bif Nat.beq a 216 then zk_nhi (i.toNat % 264) else 2147483647)) else (bif Nat.beq a 215 then zk_nhi i.toNat else 2147483647)) else (bif Nat.ble 212 a then (bif Nat.ble 214 a then (bif Nat.beq a 214 then (bif Nat.ble 32 i.toNat then (bif Nat.ble 46 i.toNat then (bif Nat.ble 58 i.toNat then (bif Nat.ble 62 i.toNat then (bif Nat.ble 63 i.toNat then (bif Nat.beq i.toNat 63 then 2300 else 2147483647) else (bif Nat.beq i.toNat 62 then 1 else 2147483647)) else (bif Nat.ble 61 i.toNat then (bif Nat.beq i.toNat 61 then 1 else 2147483647) else (bif Nat.beq i.toNat 58 then 12 else 2147483647))) else (bif Nat.ble 50 i.toNat then (bif Nat.ble 56 i.toNat then (bif Nat.beq i.toNat 56 then 40 else 2147483647) else (bif Nat.beq i.toNat 50 then 14 else 2147483647)) else (bif Nat.beq i.toNat 46 then 12 else 2147483647))) else (bif Nat.ble 35 i.toNat then (bif Nat.ble 39 i.toNat then (bif Nat.ble 43 i.toNat then (bif Nat.beq i.toNat 43 then 90 else 2147483647) else (bif Nat.beq i.toNat 39 then 16 else 2147483647)) else (bif Nat.ble 37 i.toNat then (bif Nat.beq i.toNat 37 then 16 else 2147483647) else (bif Nat.beq i.toNat 35 then 16 else 2147483647))) else (bif Nat.ble 33 i.toNat then (bif Nat.ble 34 i.toNat then (bif Nat.beq i.toNat 34 then 400 else 2147483647) else (bif Nat.beq i.toNat 33 then 3 else 2147483647)) else (bif Nat.beq i.toNat 32 then 400 else 2147483647)))) else (bif Nat.ble 16 i.toNat then (bif Nat.ble 27 i.toNat then (bif Nat.ble 30 i.toNat then (bif Nat.ble 31 i.toNat then (bif Nat.beq i.toNat 31 then 3 else 2147483647) else (bif Nat.beq i.toNat 30 then 40 else 2147483647)) else (bif Nat.ble 28 i.toNat then (bif Nat.beq i.toNat 28 then 8 else 2147483647) else (bif Nat.beq i.toNat 27 then 400 else 2147483647))) else (bif Nat.ble 17 i.toNat then (bif Nat.ble 26 i.toNat then (bif Nat.beq i.toNat 26 then 0 else 2147483647) else (bif Nat.beq i.toNat 17 then 100000 else 2147483647)) else (bif Nat.beq i.toNat 16 then 4 else 2147483647))) else (bif Nat.ble 7 i.toNat then (bif Nat.ble 14 i.toNat then (bif Nat.ble 15 i.toNat then (bif Nat.beq i.toNat 15 then 400 else 2147483647) else (bif Nat.beq i.toNat 14 then 400 else 2147483647)) else (bif Nat.ble 13 i.toNat then (bif Nat.beq i.toNat 13 then 400 else 2147483647) else (bif Nat.beq i.toNat 7 then 8 else 2147483647))) else (bif Nat.ble 5 i.toNat then (bif Nat.ble 6 i.toNat then (bif Nat.beq i.toNat 6 then 10 else 2147483647) else (bif Nat.beq i.toNat 5 then 1 else 2147483647)) else (bif Nat.beq i.toNat 3 then 6 else 2147483647))))) else 2147483647) else (bif Nat.beq a 212 then (bif Nat.ble 2 i.toNat then (bif Nat.ble 3 i.toNat then (bif Nat.beq i.toNat 3 then 8 else 2147483647) else (bif Nat.beq i.toNat 2 then 8 else 2147483647)) else (bif Nat.beq i.toNat 1 then 40 else 2147483647)) else 2147483647)) else (bif Nat.beq a 207 then 9 else 2147483647))) else (bif Nat.ble 201 a then (bif Nat.ble 202 a then (bif Nat.ble 205 a then (bif Nat.beq a 205 then 9 else 2147483647) else (bif Nat.beq a 202 then 400 else 2147483647)) else (bif Nat.beq a 201 then 400 else 2147483647)) else (bif Nat.ble 200 a then (bif Nat.beq a 200 then 400 else 2147483647) else (bif Nat.beq a 198 then 9999 else 2147483647)))) else (bif Nat.ble 191 a then (bif Nat.ble 194 a then (bif Nat.ble 195 a then (bif Nat.ble 196 a then (bif Nat.beq a 196 then (bif Nat.ble 7 i.toNat then (bif Nat.beq i.toNat 7 then 16 else 2147483647) else (bif Nat.beq i.toNat 2 then 400 else 2147483647)) else 2147483647) else (bif Nat.beq a 195 then (bif Nat.ble 5 i.toNat then (bif Nat.ble 10 i.toNat then (bif Nat.beq i.toNat 10 then 16 else 2147483647) else (bif Nat.beq i.toNat 5 then 16 else 2147483647)) else (bif Nat.beq i.toNat 2 then 17 else 2147483647)) else 2147483647)) else (bif Nat.beq a 194 then 400 else 2147483647)) else (bif Nat.ble 192 a then (bif Nat.ble 193 a then (bif Nat.beq a 193 then 9999 else 2147483647) else (bif Nat.beq a 192 then 4 else 2147483647)) else (bif Nat.beq a 191 then (bif Nat.ble 5 i.toNat then (bif Nat.ble 6 i.toNat then (bif Nat.beq i.toNat 6 then 400 else 2147483647) else (bif Nat.beq i.toNat 5 then 3 else 2147483647)) else (bif Nat.ble 4 i.toNat then (bif Nat.beq i.toNat 4 then 401 else 2147483647) else (bif Nat.beq i.toNat 3 then 401 else 2147483647))) else 2147483647))) else (bif Nat.ble 188 a then (bif Nat.ble 189 a then (bif Nat.ble 190 a then (bif Nat.beq a 190 then 255 else 2147483647) else (bif Nat.beq a 189 then 720 else 2147483647)) else (bif Nat.beq a 188 then 16 else 2147483647)) else (bif Nat.ble 187 a then (bif Nat.beq a 187 then 3 else 2147483647) else (bif Nat.beq a 186 then 3 else 2147483647)))))) else (bif Nat.ble 156 a then (bif Nat.ble 169 a then (bif Nat.ble 177 a then (bif Nat.ble 180 a then (bif Nat.ble 182 a then (bif Nat.ble 184 a then (bif Nat.beq a 184 then 31 else 2147483647) else (bif Nat.beq a 182 then 9 else 2147483647)) else (bif Nat.beq a 180 then (bif Nat.ble 6 i.toNat then (bif Nat.ble 11 i.toNat then (bif Nat.beq i.toNat 11 then 16 else 2147483647) else (bif Nat.beq i.toNat 6 then 140 else 2147483647)) else (bif Nat.beq i.toNat 5 then 14 else 2147483647)) else 2147483647)) else (bif Nat.ble 178 a then (bif Nat.ble 179 a then (bif Nat.beq a 179 then 9 else 2147483647) else (bif Nat.beq a 178 then 15 else 2147483647)) else (bif Nat.beq a 177 then (bif Nat.beq i.toNat 2 then 90 else 2147483647) else 2147483647))) else (bif Nat.ble 172 a then (bif Nat.ble 174 a then (bif Nat.ble 175 a then (bif Nat.beq a 175 then 9 else 2147483647) else (bif Nat.beq a 174 then 9 else 2147483647)) else (bif Nat.beq a 172 then 15 else 2147483647)) else (bif Nat.ble 170 a then (bif Nat.ble 171 a then (bif Nat.beq a 171 then 20 else 2147483647) else (bif Nat.beq a 170 then 999 else 2147483647)) else (bif Nat.beq a 169 then 2 else 2147483647)))) else (bif Nat.ble 162 a then (bif Nat.ble 166 a then (bif Nat.ble 167 a then (bif Nat.ble 168 a then (bif Nat.beq a 168 then 99 else 2147483647) else (bif Nat.beq a 167 then 3 else 2147483647)) else (bif Nat.beq a 166 then 5 else 2147483647)) else (bif Nat.ble 163 a then (bif Nat.ble 165 a then (bif Nat.beq a 165 then (bif Nat.ble 11 i.toNat then (bif Nat.ble 14 i.toNat then (bif Nat.ble 19 i.toNat then (bif Nat.beq i.toNat 19 then 150 else 2147483647) else (bif Nat.beq i.toNat 14 then 9 else 2147483647)) else (bif Nat.beq i.toNat 11 then 8 else 2147483647)) else (bif Nat.ble 8 i.toNat then (bif Nat.beq i.toNat 8 then 10 else 2147483647) else (bif Nat.beq i.toNat 0 then 1 else 2147483647))) else 2147483647) else (bif Nat.beq a 163 then 9 else 2147483647)) else (bif Nat.beq a 162 then 9 else 2147483647))) else (bif Nat.ble 158 a then (bif Nat.ble 159 a then (bif Nat.ble 160 a then (bif Nat.beq a 160 then 15 else 2147483647) else (bif Nat.beq a 159 then 20 else 2147483647)) else (bif Nat.beq a 158 then 999 else 2147483647)) else (bif Nat.ble 157 a then (bif Nat.beq a 157 then 2 else 2147483647) else (bif Nat.beq a 156 then 99 else 2147483647))))) else (bif Nat.ble 143 a then (bif Nat.ble 148 a then (bif Nat.ble 153 a then (bif Nat.ble 154 a then (bif Nat.ble 155 a then (bif Nat.beq a 155 then 3 else 2147483647) else (bif Nat.beq a 154 then 5 else 2147483647)) else (bif Nat.beq a 153 then (bif Nat.ble 11 i.toNat then (bif Nat.ble 14 i.toNat then (bif Nat.ble 19 i.toNat then (bif Nat.beq i.toNat 19 then 150 else 2147483647) else (bif Nat.beq i.toNat 14 then 9 else 2147483647)) else (bif Nat.beq i.toNat 11 then 8 else 2147483647)) else (bif Nat.ble 8 i.toNat then (bif Nat.beq i.toNat 8 then 10 else 2147483647) else (bif Nat.beq i.toNat 0 then 1 else 2147483647))) else 2147483647)) else (bif Nat.ble 150 a then (bif Nat.ble 151 a then (bif Nat.beq a 151 then 9 else 2147483647) else (bif Nat.beq a 150 then 9 else 2147483647)) else (bif Nat.beq a 148 then 15 else 2147483647))) else (bif Nat.ble 145 a then (bif Nat.ble 146 a then (bif Nat.ble 147 a then (bif Nat.beq a 147 then 20 else 2147483647) else (bif Nat.beq a 146 then 999 else 2147483647)) else (bif Nat.beq a 145 then 2 else 2147483647)) else (bif Nat.ble 144 a then (bif Nat.beq a 144 then 99 else 2147483647) else (bif Nat.beq a 143 then 3 else 2147483647)))) else (bif Nat.ble 135 a then (bif Nat.ble 139 a then (bif Nat.ble 141 a then (bif Nat.ble 142 a then (bif Nat.beq a 142 then 5 else 2147483647) else (bif Nat.beq a 141 then (bif Nat.ble 11 i.toNat then (bif Nat.ble 14 i.toNat then (bif Nat.ble 19 i.toNat then (bif Nat.beq i.toNat 19 then 150 else 2147483647) else (bif Nat.beq i.toNat 14 then 9 else 2147483647)) else (bif Nat.beq i.toNat 11 then 8 else 2147483647)) else (bif Nat.ble 8 i.toNat then (bif Nat.beq i.toNat 8 then 10 else 2147483647) else (bif Nat.beq i.toNat 0 then 1 else 2147483647))) else 2147483647)) else (bif Nat.beq a 139 then 9 else 2147483647)) else (bif Nat.ble 136 a then (bif Nat.ble 138 a then (bif Nat.beq a 138 then 9 else 2147483647) else (bif Nat.beq a 136 then 15 else 2147483647)) else (bif Nat.beq a 135 then 20 else 2147483647))) else (bif Nat.ble 132 a then (bif Nat.ble 133 a then (bif Nat.ble 134 a then (bif Nat.beq a 134 then 999 else 2147483647) else (bif Nat.beq a 133 then 2 else 2147483647)) else (bif Nat.beq a 132 then 99 else 2147483647)) else (bif Nat.ble 131 a then (bif Nat.beq a 131 then 3 else 2147483647) else (bif Nat.beq a 130 then 5 else 2147483647))))))) else (bif Nat.ble 71 a then (bif Nat.ble 102 a then (bif Nat.ble 115 a then (bif Nat.ble 122 a then (bif Nat.ble 126 a then (bif Nat.ble 127 a then (bif Nat.ble 129 a then (bif Nat.beq a 129 then (bif Nat.ble 11 i.toNat then (bif Nat.ble 14 i.toNat then (bif Nat.ble 19 i.toNat then (bif Nat.beq i.toNat 19 then 150 else 2147483647) else (bif Nat.beq i.toNat 14 then 9 else 2147483647)) else (bif Nat.beq i.toNat 11 then 8 else 2147483647)) else (bif Nat.ble 8 i.toNat then (bif Nat.beq i.toNat 8 then 10 else 2147483647) else (bif Nat.beq i.toNat 0 then 1 else 2147483647))) else 2147483647) else (bif Nat.beq a 127 then 9 else 2147483647)) else (bif Nat.beq a 126 then 9 else 2147483647)) else (bif Nat.ble 123 a then (bif Nat.ble 124 a then (bif Nat.beq a 124 then 15 else 2147483647) else (bif Nat.beq a 123 then 20 else 2147483647)) else (bif Nat.beq a 122 then 999 else 2147483647))) else (bif Nat.ble 119 a then (bif Nat.ble 120 a then (bif Nat.ble 121 a then (bif Nat.beq a 121 then 2 else 2147483647) else (bif Nat.beq a 120 then 99 else 2147483647)) else (bif Nat.beq a 119 then 3 else 2147483647)) else (bif Nat.ble 117 a then (bif Nat.ble 118 a then (bif Nat.beq a 118 then 5 else 2147483647) else (bif Nat.beq a 117 then (bif Nat.ble 11 i.toNat then (bif Nat.ble 14 i.toNat then (bif Nat.ble 19 i.toNat then (bif Nat.beq i.toNat 19 then 150 else 2147483647) else (bif Nat.beq i.toNat 14 then 9 else 2147483647)) else (bif Nat.beq i.toNat 11 then 8 else 2147483647)) else (bif Nat.ble 8 i.toNat then (bif Nat.beq i.toNat 8 then 10 else 2147483647) else (bif Nat.beq i.toNat 0 then 1 else 2147483647))) else 2147483647)) else (bif Nat.beq a 115 then 9 else 2147483647)))) else (bif Nat.ble 108 a then (bif Nat.ble 111 a then (bif Nat.ble 112 a then (bif Nat.ble 114 a then (bif Nat.beq a 114 then 9 else 2147483647) else (bif Nat.beq a 112 then 15 else 2147483647)) else (bif Nat.beq a 111 then 20 else 2147483647)) else (bif Nat.ble 109 a then (bif Nat.ble 110 a then (bif Nat.beq a 110 then 999 else 2147483647) else (bif Nat.beq a 109 then 2 else 2147483647)) else (bif Nat.beq a 108 then 99 else 2147483647))) else (bif Nat.ble 105 a then (bif Nat.ble 106 a then (bif Nat.ble 107 a then (bif Nat.beq a 107 then 3 else 2147483647) else (bif Nat.beq a 106 then 5 else 2147483647)) else (bif Nat.beq a 105 then (bif Nat.ble 11 i.toNat then (bif Nat.ble 14 i.toNat then (bif Nat.ble 19 i.toNat then (bif Nat.beq i.toNat 19 then 150 else 2147483647) else (bif Nat.beq i.toNat 14 then 9 else 2147483647)) else (bif Nat.beq i.toNat 11 then 8 else 2147483647)) else (bif Nat.ble 8 i.toNat then (bif Nat.beq i.toNat 8 then 10 else 2147483647) else (bif Nat.beq i.toNat 0 then 1 else 2147483647))) else 2147483647)) else (bif Nat.ble 103 a then (bif Nat.beq a 103 then 9 else 2147483647) else (bif Nat.beq a 102 then 9 else 2147483647))))) else (bif Nat.ble 89 a then (bif Nat.ble 95 a then (bif Nat.ble 98 a then (bif Nat.ble 99 a then (bif Nat.ble 100 a then (bif Nat.beq a 100 then 15 else 2147483647) else (bif Nat.beq a 99 then 20 else 2147483647)) else (bif Nat.beq a 98 then 999 else 2147483647)) else (bif Nat.ble 96 a then (bif Nat.ble 97 a then (bif Nat.beq a 97 then 2 else 2147483647) else (bif Nat.beq a 96 then 99 else 2147483647)) else (bif Nat.beq a 95 then 3 else 2147483647))) else (bif Nat.ble 91 a then (bif Nat.ble 93 a then (bif Nat.ble 94 a then (bif Nat.beq a 94 then 5 else 2147483647) else (bif Nat.beq a 93 then (bif Nat.ble 11 i.toNat then (bif Nat.ble 14 i.toNat then (bif Nat.ble 19 i.toNat then (bif Nat.beq i.toNat 19 then 150 else 2147483647) else (bif Nat.beq i.toNat 14 then 9 else 2147483647)) else (bif Nat.beq i.toNat 11 then 8 else 2147483647)) else (bif Nat.ble 8 i.toNat then (bif Nat.beq i.toNat 8 then 10 else 2147483647) else (bif Nat.beq i.toNat 0 then 1 else 2147483647))) else 2147483647)) else (bif Nat.beq a 91 then (bif Nat.ble 2 i.toNat then (bif Nat.beq i.toNat 2 then 5 else 2147483647) else (bif Nat.beq i.toNat 1 then 6 else 2147483647)) else 2147483647)) else (bif Nat.ble 90 a then (bif Nat.beq a 90 then 60 else 2147483647) else (bif Nat.beq a 89 then 9 else 2147483647)))) else (bif Nat.ble 83 a then (bif Nat.ble 86 a then (bif Nat.ble 87 a then (bif Nat.ble 88 a then (bif Nat.beq a 88 then 3 else 2147483647) else (bif Nat.beq a 87 then 3 else 2147483647)) else (bif Nat.beq a 86 then 15 else 2147483647)) else (bif Nat.ble 84 a then (bif Nat.ble 85 a then (bif Nat.beq a 85 then 9 else 2147483647) else (bif Nat.beq a 84 then 9 else 2147483647)) else (bif Nat.beq a 83 then 9 else 2147483647))) else (bif Nat.ble 76 a then (bif Nat.ble 81 a then (bif Nat.ble 82 a then (bif Nat.beq a 82 then 7 else 2147483647) else (bif Nat.beq a 81 then (bif Nat.ble 10 i.toNat then (bif Nat.ble 12 i.toNat then (bif Nat.beq i.toNat 12 then 12 else 2147483647) else (bif Nat.beq i.toNat 10 then 40 else 2147483647)) else (bif Nat.ble 5 i.toNat then (bif Nat.beq i.toNat 5 then 14 else 2147483647) else (bif Nat.beq i.toNat 2 then 12 else 2147483647))) else 2147483647)) else (bif Nat.beq a 76 then 9 else 2147483647)) else (bif Nat.ble 74 a then (bif Nat.beq a 74 then 9 else 2147483647) else (bif Nat.beq a 71 then 400 else 2147483647)))))) else (bif Nat.ble 39 a then (bif Nat.ble 51 a then (bif Nat.ble 57 a then (bif Nat.ble 67 a then (bif Nat.ble 69 a then (bif Nat.ble 70 a then (bif Nat.beq a 70 then 400 else 2147483647) else (bif Nat.beq a 69 then 400 else 2147483647)) else (bif Nat.beq a 67 then 9999 else 2147483647)) else (bif Nat.ble 64 a then (bif Nat.ble 65 a then (bif Nat.beq a 65 then (bif Nat.ble 7 i.toNat then (bif Nat.beq i.toNat 7 then 16 else 2147483647) else (bif Nat.beq i.toNat 2 then 400 else 2147483647)) else 2147483647) else (bif Nat.beq a 64 then (bif Nat.ble 5 i.toNat then (bif Nat.ble 10 i.toNat then (bif Nat.beq i.toNat 10 then 16 else 2147483647) else (bif Nat.beq i.toNat 5 then 16 else 2147483647)) else (bif Nat.beq i.toNat 2 then 17 else 2147483647)) else 2147483647)) else (bif Nat.beq a 57 then 9 else 2147483647))) else (bif Nat.ble 53 a then (bif Nat.ble 54 a then (bif Nat.ble 56 a then (bif Nat.beq a 56 then 9 else 2147483647) else (bif Nat.beq a 54 then 15 else 2147483647)) else (bif Nat.beq a 53 then 20 else 2147483647)) else (bif Nat.ble 52 a then (bif Nat.beq a 52 then 999 else 2147483647) else (bif Nat.beq a 51 then 2 else 2147483647)))) else (bif Nat.ble 44 a then (bif Nat.ble 48 a then (bif Nat.ble 49 a then (bif Nat.ble 50 a then (bif Nat.beq a 50 then 99 else 2147483647) else (bif Nat.beq a 49 then 3 else 2147483647)) else (bif Nat.beq a 48 then 5 else 2147483647)) else (bif Nat.ble 45 a then (bif Nat.ble 47 a then (bif Nat.beq a 47 then (bif Nat.ble 11 i.toNat then (bif Nat.ble 14 i.toNat then (bif Nat.ble 19 i.toNat then (bif Nat.beq i.toNat 19 then 150 else 2147483647) else (bif Nat.beq i.toNat 14 then 9 else 2147483647)) else (bif Nat.beq i.toNat 11 then 8 else 2147483647)) else (bif Nat.ble 8 i.toNat then (bif Nat.beq i.toNat 8 then 10 else 2147483647) else (bif Nat.beq i.toNat 0 then 1 else 2147483647))) else 2147483647) else (bif Nat.beq a 45 then 60 else 2147483647)) else (bif Nat.beq a 44 then 9 else 2147483647))) else (bif Nat.ble 41 a then (bif Nat.ble 42 a then (bif Nat.ble 43 a then (bif Nat.beq a 43 then 3 else 2147483647) else (bif Nat.beq a 42 then 3 else 2147483647)) else (bif Nat.beq a 41 then 15 else 2147483647)) else (bif Nat.ble 40 a then (bif Nat.beq a 40 then 9 else 2147483647) else (bif Nat.beq a 39 then 9 else 2147483647))))) else (bif Nat.ble 19 a then (bif Nat.ble 26 a then (bif Nat.ble 36 a then (bif Nat.ble 37 a then (bif Nat.ble 38 a then (bif Nat.beq a 38 then 9 else 2147483647) else (bif Nat.beq a 37 then 7 else 2147483647)) else (bif Nat.beq a 36 then (bif Nat.ble 10 i.toNat then (bif Nat.ble 12 i.toNat then (bif Nat.beq i.toNat 12 then 12 else 2147483647) else (bif Nat.beq i.toNat 10 then 40 else 2147483647)) else (bif Nat.ble 5 i.toNat then (bif Nat.beq i.toNat 5 then 14 else 2147483647) else (bif Nat.beq i.toNat 2 then 12 else 2147483647))) else 2147483647)) else (bif Nat.ble 29 a then (bif Nat.ble 31 a then (bif Nat.beq a 31 then 9 else 2147483647) else (bif Nat.beq a 29 then 9 else 2147483647)) else (bif Nat.beq a 26 then 400 else 2147483647))) else (bif Nat.ble 22 a then (bif Nat.ble 24 a then (bif Nat.ble 25 a then (bif Nat.beq a 25 then 400 else 2147483647) else (bif Nat.beq a 24 then 400 else 2147483647)) else (bif Nat.beq a 22 then 9999 else 2147483647)) else (bif Nat.ble 20 a then (bif Nat.beq a 20 then (bif Nat.ble 7 i.toNat then (bif Nat.beq i.toNat 7 then 16 else 2147483647) else (bif Nat.beq i.toNat 2 then 400 else 2147483647)) else 2147483647) else (bif Nat.beq a 19 then (bif Nat.ble 5 i.toNat then (bif Nat.ble 10 i.toNat then (bif Nat.beq i.toNat 10 then 16 else 2147483647) else (bif Nat.beq i.toNat 5 then 16 else 2147483647)) else (bif Nat.beq i.toNat 2 then 17 else 2147483647)) else 2147483647)))) else (bif Nat.ble 6 a then (bif Nat.ble 9 a then (bif Nat.ble 11 a then (bif Nat.ble 12 a then (bif Nat.beq a 12 then 9 else 2147483647) else (bif Nat.beq a 11 then 9 else 2147483647)) else (bif Nat.beq a 9 then 15 else 2147483647)) else (bif Nat.ble 7 a then (bif Nat.ble 8 a then (bif Nat.beq a 8 then 20 else 2147483647) else (bif Nat.beq a 7 then 999 else 2147483647)) else (bif Nat.beq a 6 then 2 else 2147483647))) else (bif Nat.ble 3 a then (bif Nat.ble 4 a then (bif Nat.ble 5 a then (bif Nat.beq a 5 then 99 else 2147483647) else (bif Nat.beq a 4 then 3 else 2147483647)) else (bif Nat.beq a 3 then 5 else 2147483647)) else (bif Nat.ble 2 a then (bif Nat.beq a 2 then (bif Nat.ble 11 i.toNat then (bif Nat.ble 14 i.toNat then (bif Nat.ble 19 i.toNat then (bif Nat.beq i.toNat 19 then 150 else 2147483647) else (bif Nat.beq i.toNat 14 then 9 else 2147483647)) else (bif Nat.beq i.toNat 11 then 8 else 2147483647)) else (bif Nat.ble 8 i.toNat then (bif Nat.beq i.toNat 8 then 10 else 2147483647) else (bif Nat.beq i.toNat 0 then 1 else 2147483647))) else 2147483647) else (bif Nat.beq a 0 then (bif Nat.ble 8 i.toNat then (bif Nat.beq i.toNat 8 then 400 else 2147483647) else (bif Nat.beq i.toNat 2 then 1 else 2147483647)) else 2147483647))))))))
noncomputable def zk_b (g : zi_M) : Prop := ∀ a i, zk_lo a i ≤ g a i ∧ g a i ≤ zk_hi a i
noncomputable def zk_I (g : zi_M) : Prop := zk_b g ∧ zj g
theorem zk_bd {c : Bool} {x y L H : Int} (hx : L ≤ x ∧ x ≤ H) (hy : L ≤ y ∧ y ≤ H) : L ≤ (bif c then x else y) ∧ (bif c then x else y) ≤ H := by cases c <;> assumption
theorem zk_bdr {c : Bool} {x y : Int} (hx : zi_r x) (hy : zi_r y) : zi_r (bif c then x else y) := by cases c <;> assumption
theorem zk_nlo_r (n : Nat) : zi_r (zk_nlo n) := by
  unfold zk_nlo
  exact (zk_bdr (zk_bdr (zk_bdr (zk_bdr (by decide) (by decide)) (by decide)) (zk_bdr (zk_bdr (by decide) (by decide)) (by decide))) (zk_bdr (zk_bdr (zk_bdr (by decide) (by decide)) (by decide)) (zk_bdr (zk_bdr (by decide) (by decide)) (by decide))))
theorem zk_nhi_r (n : Nat) : zi_r (zk_nhi n) := by
  unfold zk_nhi
  exact (zk_bdr (zk_bdr (zk_bdr (zk_bdr (by decide) (by decide)) (by decide)) (zk_bdr (zk_bdr (by decide) (by decide)) (by decide))) (zk_bdr (zk_bdr (zk_bdr (by decide) (by decide)) (by decide)) (zk_bdr (zk_bdr (by decide) (by decide)) (by decide))))
theorem zk_llo_r (n : Nat) : zi_r (zk_llo n) := by
  unfold zk_llo
  cases h : Nat.ble 16 n with
  | true => simp only [cond_true]; constructor <;> decide
  | false =>
    have : ¬ 16 ≤ n := fun e => by rw [Nat.ble_eq_true_of_le e] at h; cases h
    simp only [cond_false]
    constructor <;> omega
theorem zk_lhi_r (n : Nat) : zi_r (zk_lhi n) := by
  unfold zk_lhi
  cases h : Nat.ble 16 n with
  | true => simp only [cond_true]; constructor <;> decide
  | false =>
    have : ¬ 16 ≤ n := fun e => by rw [Nat.ble_eq_true_of_le e] at h; cases h
    simp only [cond_false]
    constructor <;> omega
theorem zk_mlo_r (n : Nat) : zi_r (zk_mlo n) := by
  unfold zk_mlo
  cases h : Nat.ble 32 n with
  | true => simp only [cond_true]; constructor <;> decide
  | false => simp only [cond_false]; constructor <;> omega
theorem zk_mhi_r (n : Nat) : zi_r (zk_mhi n) := by
  unfold zk_mhi
  cases h : Nat.ble 32 n with
  | true => simp only [cond_true]; constructor <;> decide
  | false => simp only [cond_false]; constructor <;> omega
set_option maxRecDepth 100000 in
theorem zk_wd_r (n : Nat) : zi_r (zk_wd n) := by
  unfold zk_wd
  exact (zk_bdr (zk_bdr (zk_bdr (zk_bdr (zk_bdr (zk_bdr (zk_bdr (zk_bdr (zk_bdr (by decide) (by decide)) (zk_bdr (by decide) (by decide))) (zk_bdr (by decide) (by decide))) (zk_bdr (zk_bdr (by decide) (by decide)) (zk_bdr (by decide) (by decide)))) (zk_bdr (zk_bdr (zk_bdr (by decide) (by decide)) (zk_bdr (by decide) (by decide))) (zk_bdr (zk_bdr (by decide) (by decide)) (zk_bdr (by decide) (by decide))))) (zk_bdr (zk_bdr (zk_bdr (zk_bdr (by decide) (by decide)) (zk_bdr (by decide) (by decide))) (zk_bdr (zk_bdr (by decide) (by decide)) (zk_bdr (by decide) (by decide)))) (zk_bdr (zk_bdr (zk_bdr (by decide) (by decide)) (zk_bdr (by decide) (by decide))) (zk_bdr (zk_bdr (by decide) (by decide)) (zk_bdr (by decide) (by decide)))))) (zk_bdr (zk_bdr (zk_bdr (zk_bdr (zk_bdr (by decide) (by decide)) (zk_bdr (by decide) (by decide))) (zk_bdr (zk_bdr (by decide) (by decide)) (zk_bdr (by decide) (by decide)))) (zk_bdr (zk_bdr (zk_bdr (by decide) (by decide)) (zk_bdr (by decide) (by decide))) (zk_bdr (zk_bdr (by decide) (by decide)) (zk_bdr (by decide) (by decide))))) (zk_bdr (zk_bdr (zk_bdr (zk_bdr (by decide) (by decide)) (zk_bdr (by decide) (by decide))) (zk_bdr (zk_bdr (by decide) (by decide)) (zk_bdr (by decide) (by decide)))) (zk_bdr (zk_bdr (zk_bdr (by decide) (by decide)) (zk_bdr (by decide) (by decide))) (zk_bdr (zk_bdr (by decide) (by decide)) (zk_bdr (by decide) (by decide))))))) (zk_bdr (zk_bdr (zk_bdr (zk_bdr (zk_bdr (zk_bdr (by decide) (by decide)) (zk_bdr (by decide) (by decide))) (zk_bdr (zk_bdr (by decide) (by decide)) (zk_bdr (by decide) (by decide)))) (zk_bdr (zk_bdr (zk_bdr (by decide) (by decide)) (zk_bdr (by decide) (by decide))) (zk_bdr (zk_bdr (by decide) (by decide)) (zk_bdr (by decide) (by decide))))) (zk_bdr (zk_bdr (zk_bdr (zk_bdr (by decide) (by decide)) (zk_bdr (by decide) (by decide))) (zk_bdr (zk_bdr (by decide) (by decide)) (zk_bdr (by decide) (by decide)))) (zk_bdr (zk_bdr (zk_bdr (by decide) (by decide)) (zk_bdr (by decide) (by decide))) (zk_bdr (zk_bdr (by decide) (by decide)) (zk_bdr (by decide) (by decide)))))) (zk_bdr (zk_bdr (zk_bdr (zk_bdr (zk_bdr (by decide) (by decide)) (zk_bdr (by decide) (by decide))) (zk_bdr (zk_bdr (by decide) (by decide)) (zk_bdr (by decide) (by decide)))) (zk_bdr (zk_bdr (zk_bdr (by decide) (by decide)) (zk_bdr (by decide) (by decide))) (zk_bdr (zk_bdr (by decide) (by decide)) (zk_bdr (by decide) (by decide))))) (zk_bdr (zk_bdr (zk_bdr (zk_bdr (by decide) (by decide)) (zk_bdr (by decide) (by decide))) (zk_bdr (zk_bdr (by decide) (by decide)) (zk_bdr (by decide) (by decide)))) (zk_bdr (zk_bdr (zk_bdr (by decide) (by decide)) (zk_bdr (by decide) (by decide))) (zk_bdr (zk_bdr (by decide) (by decide)) (zk_bdr (by decide) (by decide)))))))) (zk_bdr (zk_bdr (zk_bdr (zk_bdr (zk_bdr (zk_bdr (zk_bdr (by decide) (by decide)) (zk_bdr (by decide) (by decide))) (zk_bdr (zk_bdr (by decide) (by decide)) (zk_bdr (by decide) (by decide)))) (zk_bdr (zk_bdr (zk_bdr (by decide) (by decide)) (zk_bdr (by decide) (by decide))) (zk_bdr (zk_bdr (by decide) (by decide)) (zk_bdr (by decide) (by decide))))) (zk_bdr (zk_bdr (zk_bdr (zk_bdr (by decide) (by decide)) (zk_bdr (by decide) (by decide))) (zk_bdr (zk_bdr (by decide) (by decide)) (zk_bdr (by decide) (by decide)))) (zk_bdr (zk_bdr (zk_bdr (by decide) (by decide)) (zk_bdr (by decide) (by decide))) (zk_bdr (zk_bdr (by decide) (by decide)) (zk_bdr (by decide) (by decide)))))) (zk_bdr (zk_bdr (zk_bdr (zk_bdr (zk_bdr (by decide) (by decide)) (zk_bdr (by decide) (by decide))) (zk_bdr (zk_bdr (by decide) (by decide)) (zk_bdr (by decide) (by decide)))) (zk_bdr (zk_bdr (zk_bdr (by decide) (by decide)) (zk_bdr (by decide) (by decide))) (zk_bdr (zk_bdr (by decide) (by decide)) (zk_bdr (by decide) (by decide))))) (zk_bdr (zk_bdr (zk_bdr (zk_bdr (by decide) (by decide)) (zk_bdr (by decide) (by decide))) (zk_bdr (zk_bdr (by decide) (by decide)) (zk_bdr (by decide) (by decide)))) (zk_bdr (zk_bdr (zk_bdr (by decide) (by decide)) (zk_bdr (by decide) (by decide))) (zk_bdr (zk_bdr (by decide) (by decide)) (zk_bdr (by decide) (by decide))))))) (zk_bdr (zk_bdr (zk_bdr (zk_bdr (zk_bdr (zk_bdr (by decide) (by decide)) (zk_bdr (by decide) (by decide))) (zk_bdr (zk_bdr (by decide) (by decide)) (zk_bdr (by decide) (by decide)))) (zk_bdr (zk_bdr (zk_bdr (by decide) (by decide)) (zk_bdr (by decide) (by decide))) (zk_bdr (zk_bdr (by decide) (by decide)) (zk_bdr (by decide) (by decide))))) (zk_bdr (zk_bdr (zk_bdr (zk_bdr (by decide) (by decide)) (zk_bdr (by decide) (by decide))) (zk_bdr (zk_bdr (by decide) (by decide)) (zk_bdr (by decide) (by decide)))) (zk_bdr (zk_bdr (zk_bdr (by decide) (by decide)) (zk_bdr (by decide) (by decide))) (zk_bdr (zk_bdr (by decide) (by decide)) (zk_bdr (by decide) (by decide)))))) (zk_bdr (zk_bdr (zk_bdr (zk_bdr (zk_bdr (by decide) (by decide)) (zk_bdr (by decide) (by decide))) (zk_bdr (zk_bdr (by decide) (by decide)) (zk_bdr (by decide) (by decide)))) (zk_bdr (zk_bdr (zk_bdr (by decide) (by decide)) (zk_bdr (by decide) (by decide))) (zk_bdr (zk_bdr (by decide) (by decide)) (zk_bdr (by decide) (by decide))))) (zk_bdr (zk_bdr (zk_bdr (zk_bdr (by decide) (by decide)) (zk_bdr (by decide) (by decide))) (zk_bdr (zk_bdr (by decide) (by decide)) (zk_bdr (by decide) (by decide)))) (zk_bdr (zk_bdr (zk_bdr (by decide) (by decide)) (zk_bdr (by decide) (by decide))) (zk_bdr (zk_bdr (by decide) (by decide)) (zk_bdr (by decide) (by decide)))))))))
set_option maxRecDepth 100000 in
theorem zk_ilo_r (n : Nat) : zi_r (zk_ilo n) := by
  unfold zk_ilo
  exact (zk_bdr (zk_bdr (zk_bdr (zk_bdr (zk_bdr (by decide) (zk_bdr (zk_bdr (zk_bdr (by decide) (by decide)) (zk_bdr (by decide) (by decide))) (zk_bdr (zk_bdr (by decide) (by decide)) (zk_bdr (by decide) (by decide))))) (by decide)) (zk_bdr (by decide) (by decide))) (zk_bdr (zk_bdr (zk_bdr (zk_mlo_r _) (zk_llo_r _)) (zk_bdr (by decide) (by decide))) (zk_bdr (by decide) (zk_bdr (zk_bdr (zk_bdr (zk_bdr (by decide) (by decide)) (zk_bdr (by decide) (by decide))) (zk_bdr (by decide) (by decide))) (zk_bdr (zk_bdr (by decide) (by decide)) (zk_bdr (by decide) (by decide))))))) (zk_bdr (zk_bdr (zk_bdr (zk_bdr (by decide) (by decide)) (by decide)) (zk_bdr (by decide) (by decide))) (zk_bdr (zk_bdr (zk_bdr (by decide) (by decide)) (by decide)) (zk_bdr (by decide) (zk_nlo_r _)))))
set_option maxRecDepth 100000 in
theorem zk_ihi_r (n : Nat) : zi_r (zk_ihi n) := by
  unfold zk_ihi
  exact (zk_bdr (zk_bdr (zk_bdr (zk_bdr (zk_bdr (by decide) (zk_bdr (zk_bdr (zk_bdr (by decide) (by decide)) (zk_bdr (by decide) (by decide))) (zk_bdr (zk_bdr (by decide) (by decide)) (zk_bdr (by decide) (by decide))))) (by decide)) (zk_bdr (by decide) (by decide))) (zk_bdr (zk_bdr (zk_bdr (zk_mhi_r _) (zk_lhi_r _)) (zk_bdr (by decide) (by decide))) (zk_bdr (by decide) (zk_bdr (zk_bdr (zk_bdr (zk_bdr (by decide) (by decide)) (zk_bdr (by decide) (by decide))) (zk_bdr (by decide) (by decide))) (zk_bdr (zk_bdr (by decide) (by decide)) (zk_bdr (by decide) (by decide))))))) (zk_bdr (zk_bdr (zk_bdr (zk_bdr (by decide) (by decide)) (by decide)) (zk_bdr (by decide) (by decide))) (zk_bdr (zk_bdr (zk_bdr (by decide) (by decide)) (by decide)) (zk_bdr (by decide) (zk_nhi_r _)))))
set_option maxRecDepth 100000 in
theorem zk_lo_r (a : Nat) (i : Int) : zi_r (zk_lo a i) := by
  unfold zk_lo
  exact (zk_bdr (zk_bdr (zk_bdr (zk_bdr (zk_bdr (zk_bdr (zk_bdr (zk_bdr (zk_bdr (zk_ilo_r _) (by decide)) (zk_bdr (by decide) (by decide))) (zk_bdr (by decide) (by decide))) (zk_bdr (zk_bdr (zk_bdr (by decide) (by decide)) (zk_bdr (by decide) (by decide))) (zk_bdr (by decide) (by decide)))) (zk_bdr (zk_bdr (zk_bdr (zk_bdr (zk_mlo_r _) (by decide)) (zk_bdr (zk_llo_r _) (by decide))) (zk_bdr (by decide) (by decide))) (zk_bdr (zk_bdr (zk_bdr (by decide) (by decide)) (zk_bdr (by decide) (by decide))) (zk_bdr (by decide) (by decide))))) (zk_bdr (zk_bdr (zk_bdr (zk_bdr (zk_bdr (by decide) (by decide)) (zk_bdr (by decide) (by decide))) (zk_bdr (by decide) (by decide))) (zk_bdr (zk_bdr (zk_bdr (by decide) (by decide)) (zk_bdr (by decide) (by decide))) (zk_bdr (by decide) (by decide)))) (zk_bdr (zk_bdr (zk_bdr (zk_bdr (zk_wd_r _) (by decide)) (zk_bdr (by decide) (by decide))) (zk_bdr (by decide) (by decide))) (zk_bdr (zk_bdr (by decide) (by decide)) (zk_bdr (by decide) (by decide)))))) (zk_bdr (zk_bdr (zk_bdr (zk_bdr (zk_bdr (zk_bdr (zk_nlo_r _) (by decide)) (zk_bdr (zk_nlo_r _) (by decide))) (zk_bdr (zk_nlo_r _) (by decide))) (zk_bdr (zk_bdr (zk_bdr (zk_bdr (zk_bdr (zk_bdr (zk_bdr (zk_bdr (zk_bdr (by decide) (by decide)) (zk_bdr (by decide) (by decide))) (zk_bdr (zk_bdr (by decide) (by decide)) (zk_bdr (by decide) (by decide)))) (zk_bdr (zk_bdr (zk_bdr (by decide) (by decide)) (zk_bdr (by decide) (by decide))) (zk_bdr (by decide) (by decide)))) (zk_bdr (zk_bdr (zk_bdr (zk_bdr (by decide) (by decide)) (zk_bdr (by decide) (by decide))) (zk_bdr (zk_bdr (by decide) (by decide)) (zk_bdr (by decide) (by decide)))) (zk_bdr (zk_bdr (zk_bdr (by decide) (by decide)) (zk_bdr (by decide) (by decide))) (zk_bdr (by decide) (by decide))))) (zk_bdr (zk_bdr (zk_bdr (zk_bdr (zk_bdr (by decide) (by decide)) (zk_bdr (by decide) (by decide))) (zk_bdr (zk_bdr (by decide) (by decide)) (zk_bdr (by decide) (by decide)))) (zk_bdr (zk_bdr (zk_bdr (by decide) (by decide)) (zk_bdr (by decide) (by decide))) (zk_bdr (by decide) (by decide)))) (zk_bdr (zk_bdr (zk_bdr (zk_bdr (by decide) (by decide)) (zk_bdr (by decide) (by decide))) (zk_bdr (zk_bdr (by decide) (by decide)) (zk_bdr (by decide) (by decide)))) (zk_bdr (zk_bdr (zk_bdr (by decide) (by decide)) (zk_bdr (by decide) (by decide))) (zk_bdr (by decide) (by decide)))))) (by decide)) (zk_bdr (zk_bdr (zk_bdr (zk_bdr (by decide) (by decide)) (zk_bdr (by decide) (by decide))) (zk_bdr (by decide) (by decide))) (by decide))) (zk_bdr (by decide) (by decide)))) (zk_bdr (zk_bdr (zk_bdr (zk_bdr (by decide) (by decide)) (zk_bdr (by decide) (by decide))) (zk_bdr (by decide) (by decide))) (zk_bdr (zk_bdr (by decide) (by decide)) (zk_bdr (by decide) (by decide))))) (zk_bdr (zk_bdr (zk_bdr (zk_bdr (zk_bdr (zk_bdr (zk_bdr (by decide) (by decide)) (zk_bdr (by decide) (by decide))) (by decide)) (zk_bdr (zk_bdr (zk_bdr (zk_bdr (by decide) (by decide)) (zk_bdr (by decide) (by decide))) (zk_bdr (by decide) (by decide))) (by decide))) (zk_bdr (by decide) (by decide))) (zk_bdr (zk_bdr (zk_bdr (by decide) (by decide)) (zk_bdr (by decide) (by decide))) (zk_bdr (zk_bdr (zk_bdr (zk_bdr (by decide) (by decide)) (zk_bdr (by decide) (by decide))) (zk_bdr (zk_bdr (by decide) (by decide)) (zk_bdr (by decide) (by decide)))) (by decide)))) (zk_bdr (zk_bdr (zk_bdr (zk_bdr (by decide) (by decide)) (zk_bdr (by decide) (by decide))) (zk_bdr (by decide) (by decide))) (zk_bdr (zk_bdr (by decide) (by decide)) (zk_bdr (by decide) (by decide))))))) (zk_bdr (zk_bdr (zk_bdr (zk_bdr (zk_bdr (zk_bdr (zk_bdr (by decide) (by decide)) (zk_bdr (by decide) (by decide))) (zk_bdr (zk_bdr (zk_bdr (zk_bdr (by decide) (by decide)) (zk_bdr (by decide) (by decide))) (zk_bdr (by decide) (by decide))) (by decide))) (zk_bdr (zk_bdr (zk_bdr (by decide) (by decide)) (zk_bdr (by decide) (by decide))) (zk_bdr (zk_bdr (by decide) (by decide)) (by decide)))) (zk_bdr (zk_bdr (zk_bdr (zk_bdr (by decide) (by decide)) (zk_bdr (by decide) (by decide))) (zk_bdr (by decide) (by decide))) (zk_bdr (zk_bdr (zk_bdr (by decide) (by decide)) (zk_bdr (by decide) (by decide))) (zk_bdr (by decide) (by decide))))) (zk_bdr (zk_bdr (zk_bdr (zk_bdr (zk_bdr (by decide) (by decide)) (zk_bdr (by decide) (by decide))) (zk_bdr (by decide) (by decide))) (zk_bdr (zk_bdr (zk_bdr (zk_bdr (zk_bdr (zk_bdr (zk_bdr (by decide) (by decide)) (zk_bdr (by decide) (by decide))) (zk_bdr (by decide) (by decide))) (zk_bdr (zk_bdr (by decide) (by decide)) (zk_bdr (by decide) (by decide)))) (by decide)) (zk_bdr (by decide) (by decide))) (zk_bdr (by decide) (by decide)))) (zk_bdr (zk_bdr (zk_bdr (zk_bdr (by decide) (by decide)) (zk_bdr (by decide) (by decide))) (zk_bdr (by decide) (by decide))) (zk_bdr (zk_bdr (by decide) (by decide)) (zk_bdr (by decide) (by decide)))))) (zk_bdr (zk_bdr (zk_bdr (zk_bdr (zk_bdr (zk_bdr (by decide) (by decide)) (zk_bdr (by decide) (by decide))) (zk_bdr (zk_bdr (zk_bdr (zk_bdr (zk_bdr (by decide) (by decide)) (zk_bdr (by decide) (by decide))) (zk_bdr (by decide) (by decide))) (zk_bdr (zk_bdr (by decide) (by decide)) (zk_bdr (by decide) (by decide)))) (by decide))) (zk_bdr (zk_bdr (zk_bdr (by decide) (by decide)) (zk_bdr (by decide) (by decide))) (zk_bdr (by decide) (by decide)))) (zk_bdr (zk_bdr (zk_bdr (zk_bdr (by decide) (by decide)) (zk_bdr (by decide) (by decide))) (zk_bdr (by decide) (by decide))) (zk_bdr (zk_bdr (by decide) (by decide)) (zk_bdr (by decide) (by decide))))) (zk_bdr (zk_bdr (zk_bdr (zk_bdr (zk_bdr (by decide) (by decide)) (zk_bdr (zk_bdr (zk_bdr (zk_bdr (zk_bdr (by decide) (by decide)) (zk_bdr (by decide) (by decide))) (zk_bdr (by decide) (by decide))) (zk_bdr (zk_bdr (by decide) (by decide)) (zk_bdr (by decide) (by decide)))) (by decide))) (zk_bdr (by decide) (by decide))) (zk_bdr (zk_bdr (zk_bdr (by decide) (by decide)) (zk_bdr (by decide) (by decide))) (zk_bdr (by decide) (by decide)))) (zk_bdr (zk_bdr (zk_bdr (zk_bdr (by decide) (by decide)) (zk_bdr (by decide) (by decide))) (zk_bdr (by decide) (by decide))) (zk_bdr (zk_bdr (by decide) (by decide)) (zk_bdr (by decide) (by decide)))))))) (zk_bdr (zk_bdr (zk_bdr (zk_bdr (zk_bdr (zk_bdr (zk_bdr (zk_bdr (zk_bdr (zk_bdr (zk_bdr (zk_bdr (by decide) (by decide)) (zk_bdr (by decide) (by decide))) (zk_bdr (by decide) (by decide))) (zk_bdr (zk_bdr (by decide) (by decide)) (zk_bdr (by decide) (by decide)))) (by decide)) (zk_bdr (by decide) (by decide))) (zk_bdr (by decide) (by decide))) (zk_bdr (zk_bdr (zk_bdr (by decide) (by decide)) (zk_bdr (by decide) (by decide))) (zk_bdr (by decide) (by decide)))) (zk_bdr (zk_bdr (zk_bdr (zk_bdr (by decide) (by decide)) (zk_bdr (by decide) (by decide))) (zk_bdr (by decide) (by decide))) (zk_bdr (zk_bdr (zk_bdr (by decide) (by decide)) (zk_bdr (zk_bdr (zk_bdr (zk_bdr (zk_bdr (by decide) (by decide)) (zk_bdr (by decide) (by decide))) (zk_bdr (by decide) (by decide))) (zk_bdr (zk_bdr (by decide) (by decide)) (zk_bdr (by decide) (by decide)))) (by decide))) (zk_bdr (by decide) (by decide))))) (zk_bdr (zk_bdr (zk_bdr (zk_bdr (zk_bdr (by decide) (by decide)) (zk_bdr (by decide) (by decide))) (zk_bdr (by decide) (by decide))) (zk_bdr (zk_bdr (zk_bdr (by decide) (by decide)) (zk_bdr (by decide) (by decide))) (zk_bdr (by decide) (by decide)))) (zk_bdr (zk_bdr (zk_bdr (zk_bdr (by decide) (by decide)) (zk_bdr (by decide) (by decide))) (zk_bdr (zk_bdr (zk_bdr (zk_bdr (zk_bdr (by decide) (by decide)) (zk_bdr (by decide) (by decide))) (zk_bdr (by decide) (by decide))) (zk_bdr (zk_bdr (by decide) (by decide)) (zk_bdr (by decide) (by decide)))) (by decide))) (zk_bdr (zk_bdr (by decide) (by decide)) (zk_bdr (by decide) (by decide)))))) (zk_bdr (zk_bdr (zk_bdr (zk_bdr (zk_bdr (zk_bdr (by decide) (by decide)) (zk_bdr (by decide) (by decide))) (zk_bdr (by decide) (by decide))) (zk_bdr (zk_bdr (zk_bdr (by decide) (by decide)) (zk_bdr (by decide) (by decide))) (zk_bdr (by decide) (by decide)))) (zk_bdr (zk_bdr (zk_bdr (zk_bdr (by decide) (by decide)) (zk_bdr (zk_bdr (zk_bdr (zk_bdr (zk_bdr (by decide) (by decide)) (zk_bdr (by decide) (by decide))) (zk_bdr (by decide) (by decide))) (zk_bdr (zk_bdr (by decide) (by decide)) (zk_bdr (by decide) (by decide)))) (by decide))) (zk_bdr (zk_bdr (zk_bdr (by decide) (by decide)) (zk_bdr (by decide) (by decide))) (by decide))) (zk_bdr (zk_bdr (by decide) (by decide)) (zk_bdr (by decide) (by decide))))) (zk_bdr (zk_bdr (zk_bdr (zk_bdr (zk_bdr (by decide) (by decide)) (zk_bdr (by decide) (by decide))) (zk_bdr (by decide) (by decide))) (zk_bdr (zk_bdr (zk_bdr (by decide) (by decide)) (zk_bdr (by decide) (by decide))) (zk_bdr (by decide) (by decide)))) (zk_bdr (zk_bdr (zk_bdr (zk_bdr (by decide) (by decide)) (zk_bdr (zk_bdr (zk_bdr (zk_bdr (by decide) (by decide)) (zk_bdr (by decide) (by decide))) (zk_bdr (zk_bdr (by decide) (by decide)) (zk_bdr (by decide) (by decide)))) (by decide))) (zk_bdr (by decide) (by decide))) (zk_bdr (zk_bdr (by decide) (by decide)) (zk_bdr (by decide) (by decide))))))) (zk_bdr (zk_bdr (zk_bdr (zk_bdr (zk_bdr (zk_bdr (zk_bdr (by decide) (by decide)) (zk_bdr (by decide) (by decide))) (zk_bdr (by decide) (by decide))) (zk_bdr (zk_bdr (zk_bdr (zk_bdr (zk_bdr (by decide) (by decide)) (zk_bdr (by decide) (by decide))) (by decide)) (zk_bdr (zk_bdr (zk_bdr (zk_bdr (by decide) (by decide)) (zk_bdr (by decide) (by decide))) (zk_bdr (by decide) (by decide))) (by decide))) (zk_bdr (by decide) (by decide)))) (zk_bdr (zk_bdr (zk_bdr (zk_bdr (by decide) (by decide)) (zk_bdr (by decide) (by decide))) (zk_bdr (by decide) (by decide))) (zk_bdr (zk_bdr (by decide) (by decide)) (zk_bdr (by decide) (by decide))))) (zk_bdr (zk_bdr (zk_bdr (zk_bdr (zk_bdr (by decide) (by decide)) (zk_bdr (by decide) (by decide))) (zk_bdr (by decide) (by decide))) (zk_bdr (zk_bdr (zk_bdr (zk_bdr (zk_bdr (zk_bdr (zk_bdr (by decide) (by decide)) (zk_bdr (by decide) (by decide))) (zk_bdr (by decide) (by decide))) (zk_bdr (zk_bdr (by decide) (by decide)) (zk_bdr (by decide) (by decide)))) (by decide)) (zk_bdr (by decide) (by decide))) (zk_bdr (by decide) (by decide)))) (zk_bdr (zk_bdr (zk_bdr (zk_bdr (by decide) (by decide)) (zk_bdr (by decide) (by decide))) (zk_bdr (by decide) (by decide))) (zk_bdr (zk_bdr (by decide) (by decide)) (zk_bdr (by decide) (by decide)))))) (zk_bdr (zk_bdr (zk_bdr (zk_bdr (zk_bdr (zk_bdr (by decide) (by decide)) (zk_bdr (by decide) (by decide))) (zk_bdr (zk_bdr (zk_bdr (zk_bdr (by decide) (by decide)) (zk_bdr (by decide) (by decide))) (zk_bdr (zk_bdr (by decide) (by decide)) (zk_bdr (by decide) (by decide)))) (by decide))) (zk_bdr (zk_bdr (zk_bdr (by decide) (by decide)) (zk_bdr (by decide) (by decide))) (zk_bdr (by decide) (by decide)))) (zk_bdr (zk_bdr (zk_bdr (zk_bdr (by decide) (by decide)) (zk_bdr (by decide) (by decide))) (zk_bdr (by decide) (by decide))) (zk_bdr (zk_bdr (zk_bdr (zk_bdr (by decide) (by decide)) (zk_bdr (by decide) (by decide))) (by decide)) (zk_bdr (zk_bdr (zk_bdr (zk_bdr (by decide) (by decide)) (zk_bdr (by decide) (by decide))) (zk_bdr (by decide) (by decide))) (by decide))))) (zk_bdr (zk_bdr (zk_bdr (zk_bdr (zk_bdr (by decide) (by decide)) (zk_bdr (by decide) (by decide))) (zk_bdr (by decide) (by decide))) (zk_bdr (zk_bdr (zk_bdr (by decide) (by decide)) (zk_bdr (by decide) (by decide))) (zk_bdr (by decide) (by decide)))) (zk_bdr (zk_bdr (zk_bdr (zk_bdr (by decide) (by decide)) (zk_bdr (by decide) (by decide))) (zk_bdr (by decide) (by decide))) (zk_bdr (zk_bdr (zk_bdr (zk_bdr (zk_bdr (zk_bdr (by decide) (by decide)) (zk_bdr (by decide) (by decide))) (zk_bdr (by decide) (by decide))) (zk_bdr (zk_bdr (by decide) (by decide)) (zk_bdr (by decide) (by decide)))) (by decide)) (zk_bdr (zk_bdr (zk_bdr (by decide) (by decide)) (zk_bdr (by decide) (by decide))) (by decide)))))))))
set_option maxRecDepth 100000 in
theorem zk_hi_r (a : Nat) (i : Int) : zi_r (zk_hi a i) := by
  unfold zk_hi
  exact (zk_bdr (zk_bdr (zk_bdr (zk_bdr (zk_bdr (zk_bdr (zk_bdr (zk_bdr (zk_bdr (zk_ihi_r _) (by decide)) (zk_bdr (by decide) (by decide))) (zk_bdr (by decide) (by decide))) (zk_bdr (zk_bdr (zk_bdr (by decide) (by decide)) (zk_bdr (by decide) (by decide))) (zk_bdr (by decide) (by decide)))) (zk_bdr (zk_bdr (zk_bdr (zk_bdr (zk_mhi_r _) (by decide)) (zk_bdr (zk_lhi_r _) (by decide))) (zk_bdr (by decide) (by decide))) (zk_bdr (zk_bdr (zk_bdr (by decide) (by decide)) (zk_bdr (by decide) (by decide))) (zk_bdr (by decide) (by decide))))) (zk_bdr (zk_bdr (zk_bdr (zk_bdr (zk_bdr (by decide) (by decide)) (zk_bdr (by decide) (by decide))) (zk_bdr (by decide) (by decide))) (zk_bdr (zk_bdr (zk_bdr (by decide) (by decide)) (zk_bdr (by decide) (by decide))) (zk_bdr (by decide) (by decide)))) (zk_bdr (zk_bdr (zk_bdr (zk_bdr (zk_wd_r _) (by decide)) (zk_bdr (by decide) (by decide))) (zk_bdr (by decide) (by decide))) (zk_bdr (zk_bdr (by decide) (by decide)) (zk_bdr (by decide) (by decide)))))) (zk_bdr (zk_bdr (zk_bdr (zk_bdr (zk_bdr (zk_bdr (zk_nhi_r _) (by decide)) (zk_bdr (zk_nhi_r _) (by decide))) (zk_bdr (zk_nhi_r _) (by decide))) (zk_bdr (zk_bdr (zk_bdr (zk_bdr (zk_bdr (zk_bdr (zk_bdr (zk_bdr (zk_bdr (by decide) (by decide)) (zk_bdr (by decide) (by decide))) (zk_bdr (zk_bdr (by decide) (by decide)) (zk_bdr (by decide) (by decide)))) (zk_bdr (zk_bdr (zk_bdr (by decide) (by decide)) (zk_bdr (by decide) (by decide))) (zk_bdr (by decide) (by decide)))) (zk_bdr (zk_bdr (zk_bdr (zk_bdr (by decide) (by decide)) (zk_bdr (by decide) (by decide))) (zk_bdr (zk_bdr (by decide) (by decide)) (zk_bdr (by decide) (by decide)))) (zk_bdr (zk_bdr (zk_bdr (by decide) (by decide)) (zk_bdr (by decide) (by decide))) (zk_bdr (by decide) (by decide))))) (zk_bdr (zk_bdr (zk_bdr (zk_bdr (zk_bdr (by decide) (by decide)) (zk_bdr (by decide) (by decide))) (zk_bdr (zk_bdr (by decide) (by decide)) (zk_bdr (by decide) (by decide)))) (zk_bdr (zk_bdr (zk_bdr (by decide) (by decide)) (zk_bdr (by decide) (by decide))) (zk_bdr (by decide) (by decide)))) (zk_bdr (zk_bdr (zk_bdr (zk_bdr (by decide) (by decide)) (zk_bdr (by decide) (by decide))) (zk_bdr (zk_bdr (by decide) (by decide)) (zk_bdr (by decide) (by decide)))) (zk_bdr (zk_bdr (zk_bdr (by decide) (by decide)) (zk_bdr (by decide) (by decide))) (zk_bdr (by decide) (by decide)))))) (by decide)) (zk_bdr (zk_bdr (zk_bdr (zk_bdr (by decide) (by decide)) (zk_bdr (by decide) (by decide))) (zk_bdr (by decide) (by decide))) (by decide))) (zk_bdr (by decide) (by decide)))) (zk_bdr (zk_bdr (zk_bdr (zk_bdr (by decide) (by decide)) (zk_bdr (by decide) (by decide))) (zk_bdr (by decide) (by decide))) (zk_bdr (zk_bdr (by decide) (by decide)) (zk_bdr (by decide) (by decide))))) (zk_bdr (zk_bdr (zk_bdr (zk_bdr (zk_bdr (zk_bdr (zk_bdr (by decide) (by decide)) (zk_bdr (by decide) (by decide))) (by decide)) (zk_bdr (zk_bdr (zk_bdr (zk_bdr (by decide) (by decide)) (zk_bdr (by decide) (by decide))) (zk_bdr (by decide) (by decide))) (by decide))) (zk_bdr (by decide) (by decide))) (zk_bdr (zk_bdr (zk_bdr (by decide) (by decide)) (zk_bdr (by decide) (by decide))) (zk_bdr (zk_bdr (zk_bdr (zk_bdr (by decide) (by decide)) (zk_bdr (by decide) (by decide))) (zk_bdr (zk_bdr (by decide) (by decide)) (zk_bdr (by decide) (by decide)))) (by decide)))) (zk_bdr (zk_bdr (zk_bdr (zk_bdr (by decide) (by decide)) (zk_bdr (by decide) (by decide))) (zk_bdr (by decide) (by decide))) (zk_bdr (zk_bdr (by decide) (by decide)) (zk_bdr (by decide) (by decide))))))) (zk_bdr (zk_bdr (zk_bdr (zk_bdr (zk_bdr (zk_bdr (zk_bdr (by decide) (by decide)) (zk_bdr (by decide) (by decide))) (zk_bdr (zk_bdr (zk_bdr (zk_bdr (by decide) (by decide)) (zk_bdr (by decide) (by decide))) (zk_bdr (by decide) (by decide))) (by decide))) (zk_bdr (zk_bdr (zk_bdr (by decide) (by decide)) (zk_bdr (by decide) (by decide))) (zk_bdr (zk_bdr (by decide) (by decide)) (by decide)))) (zk_bdr (zk_bdr (zk_bdr (zk_bdr (by decide) (by decide)) (zk_bdr (by decide) (by decide))) (zk_bdr (by decide) (by decide))) (zk_bdr (zk_bdr (zk_bdr (by decide) (by decide)) (zk_bdr (by decide) (by decide))) (zk_bdr (by decide) (by decide))))) (zk_bdr (zk_bdr (zk_bdr (zk_bdr (zk_bdr (by decide) (by decide)) (zk_bdr (by decide) (by decide))) (zk_bdr (by decide) (by decide))) (zk_bdr (zk_bdr (zk_bdr (zk_bdr (zk_bdr (zk_bdr (zk_bdr (by decide) (by decide)) (zk_bdr (by decide) (by decide))) (zk_bdr (by decide) (by decide))) (zk_bdr (zk_bdr (by decide) (by decide)) (zk_bdr (by decide) (by decide)))) (by decide)) (zk_bdr (by decide) (by decide))) (zk_bdr (by decide) (by decide)))) (zk_bdr (zk_bdr (zk_bdr (zk_bdr (by decide) (by decide)) (zk_bdr (by decide) (by decide))) (zk_bdr (by decide) (by decide))) (zk_bdr (zk_bdr (by decide) (by decide)) (zk_bdr (by decide) (by decide)))))) (zk_bdr (zk_bdr (zk_bdr (zk_bdr (zk_bdr (zk_bdr (by decide) (by decide)) (zk_bdr (by decide) (by decide))) (zk_bdr (zk_bdr (zk_bdr (zk_bdr (zk_bdr (by decide) (by decide)) (zk_bdr (by decide) (by decide))) (zk_bdr (by decide) (by decide))) (zk_bdr (zk_bdr (by decide) (by decide)) (zk_bdr (by decide) (by decide)))) (by decide))) (zk_bdr (zk_bdr (zk_bdr (by decide) (by decide)) (zk_bdr (by decide) (by decide))) (zk_bdr (by decide) (by decide)))) (zk_bdr (zk_bdr (zk_bdr (zk_bdr (by decide) (by decide)) (zk_bdr (by decide) (by decide))) (zk_bdr (by decide) (by decide))) (zk_bdr (zk_bdr (by decide) (by decide)) (zk_bdr (by decide) (by decide))))) (zk_bdr (zk_bdr (zk_bdr (zk_bdr (zk_bdr (by decide) (by decide)) (zk_bdr (zk_bdr (zk_bdr (zk_bdr (zk_bdr (by decide) (by decide)) (zk_bdr (by decide) (by decide))) (zk_bdr (by decide) (by decide))) (zk_bdr (zk_bdr (by decide) (by decide)) (zk_bdr (by decide) (by decide)))) (by decide))) (zk_bdr (by decide) (by decide))) (zk_bdr (zk_bdr (zk_bdr (by decide) (by decide)) (zk_bdr (by decide) (by decide))) (zk_bdr (by decide) (by decide)))) (zk_bdr (zk_bdr (zk_bdr (zk_bdr (by decide) (by decide)) (zk_bdr (by decide) (by decide))) (zk_bdr (by decide) (by decide))) (zk_bdr (zk_bdr (by decide) (by decide)) (zk_bdr (by decide) (by decide)))))))) (zk_bdr (zk_bdr (zk_bdr (zk_bdr (zk_bdr (zk_bdr (zk_bdr (zk_bdr (zk_bdr (zk_bdr (zk_bdr (zk_bdr (by decide) (by decide)) (zk_bdr (by decide) (by decide))) (zk_bdr (by decide) (by decide))) (zk_bdr (zk_bdr (by decide) (by decide)) (zk_bdr (by decide) (by decide)))) (by decide)) (zk_bdr (by decide) (by decide))) (zk_bdr (by decide) (by decide))) (zk_bdr (zk_bdr (zk_bdr (by decide) (by decide)) (zk_bdr (by decide) (by decide))) (zk_bdr (by decide) (by decide)))) (zk_bdr (zk_bdr (zk_bdr (zk_bdr (by decide) (by decide)) (zk_bdr (by decide) (by decide))) (zk_bdr (by decide) (by decide))) (zk_bdr (zk_bdr (zk_bdr (by decide) (by decide)) (zk_bdr (zk_bdr (zk_bdr (zk_bdr (zk_bdr (by decide) (by decide)) (zk_bdr (by decide) (by decide))) (zk_bdr (by decide) (by decide))) (zk_bdr (zk_bdr (by decide) (by decide)) (zk_bdr (by decide) (by decide)))) (by decide))) (zk_bdr (by decide) (by decide))))) (zk_bdr (zk_bdr (zk_bdr (zk_bdr (zk_bdr (by decide) (by decide)) (zk_bdr (by decide) (by decide))) (zk_bdr (by decide) (by decide))) (zk_bdr (zk_bdr (zk_bdr (by decide) (by decide)) (zk_bdr (by decide) (by decide))) (zk_bdr (by decide) (by decide)))) (zk_bdr (zk_bdr (zk_bdr (zk_bdr (by decide) (by decide)) (zk_bdr (by decide) (by decide))) (zk_bdr (zk_bdr (zk_bdr (zk_bdr (zk_bdr (by decide) (by decide)) (zk_bdr (by decide) (by decide))) (zk_bdr (by decide) (by decide))) (zk_bdr (zk_bdr (by decide) (by decide)) (zk_bdr (by decide) (by decide)))) (by decide))) (zk_bdr (zk_bdr (by decide) (by decide)) (zk_bdr (by decide) (by decide)))))) (zk_bdr (zk_bdr (zk_bdr (zk_bdr (zk_bdr (zk_bdr (by decide) (by decide)) (zk_bdr (by decide) (by decide))) (zk_bdr (by decide) (by decide))) (zk_bdr (zk_bdr (zk_bdr (by decide) (by decide)) (zk_bdr (by decide) (by decide))) (zk_bdr (by decide) (by decide)))) (zk_bdr (zk_bdr (zk_bdr (zk_bdr (by decide) (by decide)) (zk_bdr (zk_bdr (zk_bdr (zk_bdr (zk_bdr (by decide) (by decide)) (zk_bdr (by decide) (by decide))) (zk_bdr (by decide) (by decide))) (zk_bdr (zk_bdr (by decide) (by decide)) (zk_bdr (by decide) (by decide)))) (by decide))) (zk_bdr (zk_bdr (zk_bdr (by decide) (by decide)) (zk_bdr (by decide) (by decide))) (by decide))) (zk_bdr (zk_bdr (by decide) (by decide)) (zk_bdr (by decide) (by decide))))) (zk_bdr (zk_bdr (zk_bdr (zk_bdr (zk_bdr (by decide) (by decide)) (zk_bdr (by decide) (by decide))) (zk_bdr (by decide) (by decide))) (zk_bdr (zk_bdr (zk_bdr (by decide) (by decide)) (zk_bdr (by decide) (by decide))) (zk_bdr (by decide) (by decide)))) (zk_bdr (zk_bdr (zk_bdr (zk_bdr (by decide) (by decide)) (zk_bdr (zk_bdr (zk_bdr (zk_bdr (by decide) (by decide)) (zk_bdr (by decide) (by decide))) (zk_bdr (zk_bdr (by decide) (by decide)) (zk_bdr (by decide) (by decide)))) (by decide))) (zk_bdr (by decide) (by decide))) (zk_bdr (zk_bdr (by decide) (by decide)) (zk_bdr (by decide) (by decide))))))) (zk_bdr (zk_bdr (zk_bdr (zk_bdr (zk_bdr (zk_bdr (zk_bdr (by decide) (by decide)) (zk_bdr (by decide) (by decide))) (zk_bdr (by decide) (by decide))) (zk_bdr (zk_bdr (zk_bdr (zk_bdr (zk_bdr (by decide) (by decide)) (zk_bdr (by decide) (by decide))) (by decide)) (zk_bdr (zk_bdr (zk_bdr (zk_bdr (by decide) (by decide)) (zk_bdr (by decide) (by decide))) (zk_bdr (by decide) (by decide))) (by decide))) (zk_bdr (by decide) (by decide)))) (zk_bdr (zk_bdr (zk_bdr (zk_bdr (by decide) (by decide)) (zk_bdr (by decide) (by decide))) (zk_bdr (by decide) (by decide))) (zk_bdr (zk_bdr (by decide) (by decide)) (zk_bdr (by decide) (by decide))))) (zk_bdr (zk_bdr (zk_bdr (zk_bdr (zk_bdr (by decide) (by decide)) (zk_bdr (by decide) (by decide))) (zk_bdr (by decide) (by decide))) (zk_bdr (zk_bdr (zk_bdr (zk_bdr (zk_bdr (zk_bdr (zk_bdr (by decide) (by decide)) (zk_bdr (by decide) (by decide))) (zk_bdr (by decide) (by decide))) (zk_bdr (zk_bdr (by decide) (by decide)) (zk_bdr (by decide) (by decide)))) (by decide)) (zk_bdr (by decide) (by decide))) (zk_bdr (by decide) (by decide)))) (zk_bdr (zk_bdr (zk_bdr (zk_bdr (by decide) (by decide)) (zk_bdr (by decide) (by decide))) (zk_bdr (by decide) (by decide))) (zk_bdr (zk_bdr (by decide) (by decide)) (zk_bdr (by decide) (by decide)))))) (zk_bdr (zk_bdr (zk_bdr (zk_bdr (zk_bdr (zk_bdr (by decide) (by decide)) (zk_bdr (by decide) (by decide))) (zk_bdr (zk_bdr (zk_bdr (zk_bdr (by decide) (by decide)) (zk_bdr (by decide) (by decide))) (zk_bdr (zk_bdr (by decide) (by decide)) (zk_bdr (by decide) (by decide)))) (by decide))) (zk_bdr (zk_bdr (zk_bdr (by decide) (by decide)) (zk_bdr (by decide) (by decide))) (zk_bdr (by decide) (by decide)))) (zk_bdr (zk_bdr (zk_bdr (zk_bdr (by decide) (by decide)) (zk_bdr (by decide) (by decide))) (zk_bdr (by decide) (by decide))) (zk_bdr (zk_bdr (zk_bdr (zk_bdr (by decide) (by decide)) (zk_bdr (by decide) (by decide))) (by decide)) (zk_bdr (zk_bdr (zk_bdr (zk_bdr (by decide) (by decide)) (zk_bdr (by decide) (by decide))) (zk_bdr (by decide) (by decide))) (by decide))))) (zk_bdr (zk_bdr (zk_bdr (zk_bdr (zk_bdr (by decide) (by decide)) (zk_bdr (by decide) (by decide))) (zk_bdr (by decide) (by decide))) (zk_bdr (zk_bdr (zk_bdr (by decide) (by decide)) (zk_bdr (by decide) (by decide))) (zk_bdr (by decide) (by decide)))) (zk_bdr (zk_bdr (zk_bdr (zk_bdr (by decide) (by decide)) (zk_bdr (by decide) (by decide))) (zk_bdr (by decide) (by decide))) (zk_bdr (zk_bdr (zk_bdr (zk_bdr (zk_bdr (zk_bdr (by decide) (by decide)) (zk_bdr (by decide) (by decide))) (zk_bdr (by decide) (by decide))) (zk_bdr (zk_bdr (by decide) (by decide)) (zk_bdr (by decide) (by decide)))) (by decide)) (zk_bdr (zk_bdr (zk_bdr (by decide) (by decide)) (zk_bdr (by decide) (by decide))) (by decide)))))))))
theorem zk_rng {g : zi_M} (I : zk_I g) (a : Nat) (i : Int) : zi_r (g a i) := ⟨Int.le_trans (zk_lo_r a i).1 (I.1 a i).1, Int.le_trans (I.1 a i).2 (zk_hi_r a i).2⟩
theorem zk_upd {g : zi_M} {a : Nat} {i v L H : Int} (hL : zk_lo a i = L) (hH : zk_hi a i = H) (I : zk_I g) (hv : L ≤ v ∧ v ≤ H) (hz : zj_no a = true := by rfl) : zk_I (zi_u g a i v) := by
  refine ⟨?_, zj_u I.2 hz⟩
  intro b k
  unfold zi_u
  split
  · rename_i h
    rw [h.1, h.2, hL, hH]
    exact hv
  · exact I.1 b k
theorem zk_updb {g : zi_M} {a : Nat} {i v L H : Int} (hL : zk_lo a i = L) (hH : zk_hi a i = H) (I : zk_b g) (hv : L ≤ v ∧ v ≤ H) : zk_b (zi_u g a i v) := by
  intro b k
  unfold zi_u
  split
  · rename_i h
    rw [h.1, h.2, hL, hH]
    exact hv
  · exact I b k
theorem zk_fill {g : zi_M} {a : Nat} {n v L H : Int} (hL : ∀ i, zk_lo a i = L) (hH : ∀ i, zk_hi a i = H) (I : zk_I g) (hv : L ≤ v ∧ v ≤ H) (hz : zj_no a = true := by rfl) : zk_I (zi_fl g a n v) := by
  refine ⟨?_, zj_fl I.2 hz⟩
  intro b k
  unfold zi_fl
  split
  · rename_i h
    rw [h.1, hL, hH]
    exact hv
  · exact I.1 b k
theorem zk_cp {g : zi_M} {s a : Nat} {sp dp n L H : Int} (hs : ∀ i, zk_lo s i = L ∧ zk_hi s i = H) (ha : ∀ i, zk_lo a i = L ∧ zk_hi a i = H) (I : zk_I g) (hz : zj_no a = true := by rfl) : zk_I (zi_cp g s sp a dp n) := by
  refine ⟨?_, zj_cp I.2 hz⟩
  intro b k
  unfold zi_cp
  split
  · rename_i h
    have := I.1 s (sp + (k - dp))
    rw [(hs _).1, (hs _).2] at this
    rw [h.1, (ha _).1, (ha _).2]
    exact this
  · exact I.1 b k
noncomputable def zk_fr (S : Nat → Int → Prop) (g h : zi_M) : Prop := ∀ a i, ¬ S a i → h a i = g a i
theorem zk_f0 {g : zi_M} (S : Nat → Int → Prop) : zk_fr S g g := fun _ _ _ => rfl
theorem zk_fu {S : Nat → Int → Prop} {g h : zi_M} {a : Nat} {i v : Int} (F : zk_fr S g h) (hs : S a i) : zk_fr S g (zi_u h a i v) := by
  intro b k hb
  unfold zi_u
  rw [if_neg (fun e => hb (by rw [e.1, e.2]; exact hs))]
  exact F b k hb
theorem zk_fc {S : Nat → Int → Prop} {g h : zi_M} {s t : Nat} {sp dp n : Int} (F : zk_fr S g h) (hs : ∀ i, S t i) : zk_fr S g (zi_cp h s sp t dp n) := by
  intro b k hb
  unfold zi_cp
  rw [if_neg (fun e => hb (by rw [e.1]; exact hs k))]
  exact F b k hb
theorem zk_ff {S : Nat → Int → Prop} {g h : zi_M} {t : Nat} {n v : Int} (F : zk_fr S g h) (hs : ∀ i, S t i) : zk_fr S g (zi_fl h t n v) := by
  intro b k hb
  unfold zi_fl
  rw [if_neg (fun e => hb (by rw [e.1]; exact hs k))]
  exact F b k hb
theorem zk_ft {S T : Nat → Int → Prop} {g h k : zi_M} (F : zk_fr S g h) (F2 : zk_fr T h k) (hs : ∀ a i, T a i → S a i) : zk_fr S g k := fun a i ha => (F2 a i (fun e => ha (hs a i e))).trans (F a i ha)
theorem zi_u_if {g : zi_M} {a : Nat} {i k v : Int} : (k = i → zi_u g a i v a k = v) ∧ (¬ k = i → zi_u g a i v a k = g a k) := ⟨fun e => by rw [e]; exact zi_u_eq, fun e => zi_u_ni e⟩
theorem zk_nl0 {i : Int} (h : 0 ≤ i ∧ i < 2) : zk_lo 215 i = (-2147483648) ∧ zk_hi 215 i = 2147483647 := by
  have hd : ∀ n, n < 2 → 0 ≤ n → zk_nlo n = (-2147483648) ∧ zk_nhi n = 2147483647 := by decide +kernel
  exact hd i.toNat (by omega) (by omega)
theorem zk_now0 {g : zi_M} (I : zk_I g) {i : Int} (h : 0 ≤ i ∧ i < 2) : (-2147483648) ≤ g 215 i ∧ g 215 i ≤ 2147483647 := by
  have h1 := I.1 215 i
  rw [(zk_nl0 h).1, (zk_nl0 h).2] at h1
  exact h1
theorem zk_nl2 {i : Int} (h : 2 ≤ i ∧ i < 3) : zk_lo 215 i = 0 ∧ zk_hi 215 i = 150 := by
  have hd : ∀ n, n < 3 → 2 ≤ n → zk_nlo n = 0 ∧ zk_nhi n = 150 := by decide +kernel
  exact hd i.toNat (by omega) (by omega)
theorem zk_now2 {g : zi_M} (I : zk_I g) {i : Int} (h : 2 ≤ i ∧ i < 3) : 0 ≤ g 215 i ∧ g 215 i ≤ 150 := by
  have h1 := I.1 215 i
  rw [(zk_nl2 h).1, (zk_nl2 h).2] at h1
  exact h1
theorem zk_nl3 {i : Int} (h : 3 ≤ i ∧ i < 6) : zk_lo 215 i = (-2147483648) ∧ zk_hi 215 i = 2147483647 := by
  have hd : ∀ n, n < 6 → 3 ≤ n → zk_nlo n = (-2147483648) ∧ zk_nhi n = 2147483647 := by decide +kernel
  exact hd i.toNat (by omega) (by omega)
theorem zk_now3 {g : zi_M} (I : zk_I g) {i : Int} (h : 3 ≤ i ∧ i < 6) : (-2147483648) ≤ g 215 i ∧ g 215 i ≤ 2147483647 := by
  have h1 := I.1 215 i
  rw [(zk_nl3 h).1, (zk_nl3 h).2] at h1
  exact h1
theorem zk_nl6 {i : Int} (h : 6 ≤ i ∧ i < 16) : zk_lo 215 i = 0 ∧ zk_hi 215 i = 2 := by
  have hd : ∀ n, n < 16 → 6 ≤ n → zk_nlo n = 0 ∧ zk_nhi n = 2 := by decide +kernel
  exact hd i.toNat (by omega) (by omega)
theorem zk_now6 {g : zi_M} (I : zk_I g) {i : Int} (h : 6 ≤ i ∧ i < 16) : 0 ≤ g 215 i ∧ g 215 i ≤ 2 := by
  have h1 := I.1 215 i
  rw [(zk_nl6 h).1, (zk_nl6 h).2] at h1
  exact h1
theorem zk_nl16 {i : Int} (h : 16 ≤ i ∧ i < 26) : zk_lo 215 i = 0 ∧ zk_hi 215 i = 999 := by
  have hd : ∀ n, n < 26 → 16 ≤ n → zk_nlo n = 0 ∧ zk_nhi n = 999 := by decide +kernel
  exact hd i.toNat (by omega) (by omega)
theorem zk_now16 {g : zi_M} (I : zk_I g) {i : Int} (h : 16 ≤ i ∧ i < 26) : 0 ≤ g 215 i ∧ g 215 i ≤ 999 := by
  have h1 := I.1 215 i
  rw [(zk_nl16 h).1, (zk_nl16 h).2] at h1
  exact h1
theorem zk_nl26 {i : Int} (h : 26 ≤ i ∧ i < 36) : zk_lo 215 i = 0 ∧ zk_hi 215 i = 20 := by
  have hd : ∀ n, n < 36 → 26 ≤ n → zk_nlo n = 0 ∧ zk_nhi n = 20 := by decide +kernel
  exact hd i.toNat (by omega) (by omega)
theorem zk_now26 {g : zi_M} (I : zk_I g) {i : Int} (h : 26 ≤ i ∧ i < 36) : 0 ≤ g 215 i ∧ g 215 i ≤ 20 := by
  have h1 := I.1 215 i
  rw [(zk_nl26 h).1, (zk_nl26 h).2] at h1
  exact h1
theorem zk_nl36 {i : Int} (h : 36 ≤ i ∧ i < 236) : zk_lo 215 i = 0 ∧ zk_hi 215 i = 15 := by
  have hd : ∀ n, n < 236 → 36 ≤ n → zk_nlo n = 0 ∧ zk_nhi n = 15 := by decide +kernel
  exact hd i.toNat (by omega) (by omega)
theorem zk_now36 {g : zi_M} (I : zk_I g) {i : Int} (h : 36 ≤ i ∧ i < 236) : 0 ≤ g 215 i ∧ g 215 i ≤ 15 := by
  have h1 := I.1 215 i
  rw [(zk_nl36 h).1, (zk_nl36 h).2] at h1
  exact h1
theorem zk_nl236 {i : Int} (h : 236 ≤ i ∧ i < 244) : zk_lo 215 i = (-2147483648) ∧ zk_hi 215 i = 2147483647 := by
  have hd : ∀ n, n < 244 → 236 ≤ n → zk_nlo n = (-2147483648) ∧ zk_nhi n = 2147483647 := by decide +kernel
  exact hd i.toNat (by omega) (by omega)
theorem zk_now236 {g : zi_M} (I : zk_I g) {i : Int} (h : 236 ≤ i ∧ i < 244) : (-2147483648) ≤ g 215 i ∧ g 215 i ≤ 2147483647 := by
  have h1 := I.1 215 i
  rw [(zk_nl236 h).1, (zk_nl236 h).2] at h1
  exact h1
theorem zk_nl244 {i : Int} (h : 244 ≤ i ∧ i < 252) : zk_lo 215 i = 0 ∧ zk_hi 215 i = 10 := by
  have hd : ∀ n, n < 252 → 244 ≤ n → zk_nlo n = 0 ∧ zk_nhi n = 10 := by decide +kernel
  exact hd i.toNat (by omega) (by omega)
theorem zk_now244 {g : zi_M} (I : zk_I g) {i : Int} (h : 244 ≤ i ∧ i < 252) : 0 ≤ g 215 i ∧ g 215 i ≤ 10 := by
  have h1 := I.1 215 i
  rw [(zk_nl244 h).1, (zk_nl244 h).2] at h1
  exact h1
theorem zk_nl252 {i : Int} (h : 252 ≤ i ∧ i < 258) : zk_lo 215 i = 0 ∧ zk_hi 215 i = 10 := by
  have hd : ∀ n, n < 258 → 252 ≤ n → zk_nlo n = 0 ∧ zk_nhi n = 10 := by decide +kernel
  exact hd i.toNat (by omega) (by omega)
theorem zk_now252 {g : zi_M} (I : zk_I g) {i : Int} (h : 252 ≤ i ∧ i < 258) : 0 ≤ g 215 i ∧ g 215 i ≤ 10 := by
  have h1 := I.1 215 i
  rw [(zk_nl252 h).1, (zk_nl252 h).2] at h1
  exact h1
theorem zk_nl258 {i : Int} (h : 258 ≤ i ∧ i < 264) : zk_lo 215 i = (-2147483648) ∧ zk_hi 215 i = 2147483647 := by
  have hd : ∀ n, n < 264 → 258 ≤ n → zk_nlo n = (-2147483648) ∧ zk_nhi n = 2147483647 := by decide +kernel
  exact hd i.toNat (by omega) (by omega)
theorem zk_now258 {g : zi_M} (I : zk_I g) {i : Int} (h : 258 ≤ i ∧ i < 264) : (-2147483648) ≤ g 215 i ∧ g 215 i ≤ 2147483647 := by
  have h1 := I.1 215 i
  rw [(zk_nl258 h).1, (zk_nl258 h).2] at h1
  exact h1
theorem zk_ll {i : Int} (h : 0 ≤ i ∧ i < 16) : zk_lo 243 i = -i ∧ zk_hi 243 i = 15 - i := by
  have e : Nat.ble 16 i.toNat = false := by
    cases hb : Nat.ble 16 i.toNat with
    | false => rfl
    | true => have := Nat.le_of_ble_eq_true hb; omega
  constructor
  · show zk_llo i.toNat = _
    unfold zk_llo
    rw [e]
    simp only [cond_false]
    omega
  · show zk_lhi i.toNat = _
    unfold zk_lhi
    rw [e]
    simp only [cond_false]
    omega
theorem zk_latin {g : zi_M} (I : zk_I g) {i : Int} : zi_r (g 243 i) ∧ (0 ≤ i ∧ i < 16 → -i ≤ g 243 i ∧ g 243 i ≤ 15 - i) := by
  refine ⟨zk_rng I _ _, fun h => ?_⟩
  have h1 := I.1 243 i
  rw [(zk_ll h).1, (zk_ll h).2] at h1
  exact h1
theorem zk_lm {i : Int} (h : 0 ≤ i ∧ i < 32) : zk_lo 244 i = -(i % 4) ∧ zk_hi 244 i = 3 - i % 4 := by
  have e : Nat.ble 32 i.toNat = false := by
    cases hb : Nat.ble 32 i.toNat with
    | false => rfl
    | true => have := Nat.le_of_ble_eq_true hb; omega
  constructor
  · show zk_mlo i.toNat = _
    unfold zk_mlo
    rw [e]
    simp only [cond_false]
    omega
  · show zk_mhi i.toNat = _
    unfold zk_mhi
    rw [e]
    simp only [cond_false]
    omega
theorem zk_mason {g : zi_M} (I : zk_I g) {i : Int} : zi_r (g 244 i) ∧ (0 ≤ i ∧ i < 32 → -(i % 4) ≤ g 244 i ∧ g 244 i ≤ 3 - i % 4) := by
  refine ⟨zk_rng I _ _, fun h => ?_⟩
  have h1 := I.1 244 i
  rw [(zk_lm h).1, (zk_lm h).2] at h1
  exact h1
theorem zk_w0 {r : Nat} (h : zs_sh r = some (0, 4)) : r = 14 ∨ r = 59 := by
  have hd : ∀ r, r < 251 → zs_sh r = some (0, 4) → r = 14 ∨ r = 59 := by decide +kernel
  exact hd r (zs_lt h).1 h
theorem zj_w0 {r : Nat} (h : zs_sh r = some (0, 4)) : zj_no r = true := by
  rcases zk_w0 h with rfl | rfl <;> rfl
theorem zj_a0_1 {r : Nat} (h : zs_sh r = some (0, 4)) : zj_no (r + 1) = true := by
  rcases zk_w0 h with rfl | rfl <;> rfl
theorem zk_la0_1 {r : Nat} (h : zs_sh r = some (0, 4)) {i : Int} : zk_lo (r + 1) i = (-2147483648) ∧ zk_hi (r + 1) i = 2147483647 := by
  rcases zk_w0 h with rfl | rfl <;> exact ⟨rfl, rfl⟩
theorem zk_a0_1 {r : Nat} (h : zs_sh r = some (0, 4)) {g : zi_M} (I : zk_I g) (i : Int) : (-2147483648) ≤ g (r + 1) i ∧ g (r + 1) i ≤ 2147483647 := by
  have h1 := I.1 (r + 1) i
  rw [(zk_la0_1 h).1, (zk_la0_1 h).2] at h1
  exact h1
theorem zj_a0_2 {r : Nat} (h : zs_sh r = some (0, 4)) : zj_no (r + 2) = true := by
  rcases zk_w0 h with rfl | rfl <;> rfl
theorem zk_la0_2 {r : Nat} (h : zs_sh r = some (0, 4)) {i : Int} : zk_lo (r + 2) i = (-2147483648) ∧ zk_hi (r + 2) i = 2147483647 := by
  rcases zk_w0 h with rfl | rfl <;> exact ⟨rfl, rfl⟩
theorem zk_a0_2 {r : Nat} (h : zs_sh r = some (0, 4)) {g : zi_M} (I : zk_I g) (i : Int) : (-2147483648) ≤ g (r + 2) i ∧ g (r + 2) i ≤ 2147483647 := by
  have h1 := I.1 (r + 2) i
  rw [(zk_la0_2 h).1, (zk_la0_2 h).2] at h1
  exact h1
theorem zj_a0_3 {r : Nat} (h : zs_sh r = some (0, 4)) : zj_no (r + 3) = true := by
  rcases zk_w0 h with rfl | rfl <;> rfl
theorem zk_la0_3 {r : Nat} (h : zs_sh r = some (0, 4)) {i : Int} : zk_lo (r + 3) i = (-2147483648) ∧ zk_hi (r + 3) i = 2147483647 := by
  rcases zk_w0 h with rfl | rfl <;> exact ⟨rfl, rfl⟩
theorem zk_a0_3 {r : Nat} (h : zs_sh r = some (0, 4)) {g : zi_M} (I : zk_I g) (i : Int) : (-2147483648) ≤ g (r + 3) i ∧ g (r + 3) i ≤ 2147483647 := by
  have h1 := I.1 (r + 3) i
  rw [(zk_la0_3 h).1, (zk_la0_3 h).2] at h1
  exact h1
theorem zj_a0_4 {r : Nat} (h : zs_sh r = some (0, 4)) : zj_no (r + 4) = true := by
  rcases zk_w0 h with rfl | rfl <;> rfl
theorem zk_la0_4 {r : Nat} (h : zs_sh r = some (0, 4)) {i : Int} : zk_lo (r + 4) i = (-2147483648) ∧ zk_hi (r + 4) i = 2147483647 := by
  rcases zk_w0 h with rfl | rfl <;> exact ⟨rfl, rfl⟩
theorem zk_a0_4 {r : Nat} (h : zs_sh r = some (0, 4)) {g : zi_M} (I : zk_I g) (i : Int) : (-2147483648) ≤ g (r + 4) i ∧ g (r + 4) i ≤ 2147483647 := by
  have h1 := I.1 (r + 4) i
  rw [(zk_la0_4 h).1, (zk_la0_4 h).2] at h1
  exact h1
theorem zk_w3 {r : Nat} (h : zs_sh r = some (3, 10)) : r = 20 ∨ r = 65 ∨ r = 196 := by
  have hd : ∀ r, r < 251 → zs_sh r = some (3, 10) → r = 20 ∨ r = 65 ∨ r = 196 := by decide +kernel
  exact hd r (zs_lt h).1 h
theorem zj_w3 {r : Nat} (h : zs_sh r = some (3, 10)) : zj_no r = true := by
  rcases zk_w3 h with rfl | rfl | rfl <;> rfl
theorem zj_a3_1 {r : Nat} (h : zs_sh r = some (3, 10)) : zj_no (r + 1) = true := by
  rcases zk_w3 h with rfl | rfl | rfl <;> rfl
theorem zk_la3_1 {r : Nat} (h : zs_sh r = some (3, 10)) {i : Int} : zk_lo (r + 1) i = (-2147483648) ∧ zk_hi (r + 1) i = 2147483647 := by
  rcases zk_w3 h with rfl | rfl | rfl <;> exact ⟨rfl, rfl⟩
theorem zk_a3_1 {r : Nat} (h : zs_sh r = some (3, 10)) {g : zi_M} (I : zk_I g) (i : Int) : (-2147483648) ≤ g (r + 1) i ∧ g (r + 1) i ≤ 2147483647 := by
  have h1 := I.1 (r + 1) i
  rw [(zk_la3_1 h).1, (zk_la3_1 h).2] at h1
  exact h1
theorem zj_a3_2 {r : Nat} (h : zs_sh r = some (3, 10)) : zj_no (r + 2) = true := by
  rcases zk_w3 h with rfl | rfl | rfl <;> rfl
theorem zk_la3_2 {r : Nat} (h : zs_sh r = some (3, 10)) {i : Int} : zk_lo (r + 2) i = 0 ∧ zk_hi (r + 2) i = 9999 := by
  rcases zk_w3 h with rfl | rfl | rfl <;> exact ⟨rfl, rfl⟩
theorem zk_a3_2 {r : Nat} (h : zs_sh r = some (3, 10)) {g : zi_M} (I : zk_I g) (i : Int) : 0 ≤ g (r + 2) i ∧ g (r + 2) i ≤ 9999 := by
  have h1 := I.1 (r + 2) i
  rw [(zk_la3_2 h).1, (zk_la3_2 h).2] at h1
  exact h1
theorem zk_lc3_2 {r : Nat} (h : zs_sh r = some (3, 10)) : zk_lo r 2 = 0 ∧ zk_hi r 2 = 400 := by
  rcases zk_w3 h with rfl | rfl | rfl <;> exact ⟨rfl, rfl⟩
theorem zk_c3_2 {r : Nat} (h : zs_sh r = some (3, 10)) {g : zi_M} (I : zk_I g) : 0 ≤ g r 2 ∧ g r 2 ≤ 400 := by
  have h1 := I.1 r 2
  rw [(zk_lc3_2 h).1, (zk_lc3_2 h).2] at h1
  exact h1
theorem zj_a3_3 {r : Nat} (h : zs_sh r = some (3, 10)) : zj_no (r + 3) = true := by
  rcases zk_w3 h with rfl | rfl | rfl <;> rfl
theorem zk_la3_3 {r : Nat} (h : zs_sh r = some (3, 10)) {i : Int} : zk_lo (r + 3) i = (-2147483648) ∧ zk_hi (r + 3) i = 2147483647 := by
  rcases zk_w3 h with rfl | rfl | rfl <;> exact ⟨rfl, rfl⟩
theorem zk_a3_3 {r : Nat} (h : zs_sh r = some (3, 10)) {g : zi_M} (I : zk_I g) (i : Int) : (-2147483648) ≤ g (r + 3) i ∧ g (r + 3) i ≤ 2147483647 := by
  have h1 := I.1 (r + 3) i
  rw [(zk_la3_3 h).1, (zk_la3_3 h).2] at h1
  exact h1
theorem zj_a3_4 {r : Nat} (h : zs_sh r = some (3, 10)) : zj_no (r + 4) = true := by
  rcases zk_w3 h with rfl | rfl | rfl <;> rfl
theorem zk_la3_4 {r : Nat} (h : zs_sh r = some (3, 10)) {i : Int} : zk_lo (r + 4) i = 0 ∧ zk_hi (r + 4) i = 400 := by
  rcases zk_w3 h with rfl | rfl | rfl <;> exact ⟨rfl, rfl⟩
theorem zk_a3_4 {r : Nat} (h : zs_sh r = some (3, 10)) {g : zi_M} (I : zk_I g) (i : Int) : 0 ≤ g (r + 4) i ∧ g (r + 4) i ≤ 400 := by
  have h1 := I.1 (r + 4) i
  rw [(zk_la3_4 h).1, (zk_la3_4 h).2] at h1
  exact h1
theorem zj_a3_5 {r : Nat} (h : zs_sh r = some (3, 10)) : zj_no (r + 5) = true := by
  rcases zk_w3 h with rfl | rfl | rfl <;> rfl
theorem zk_la3_5 {r : Nat} (h : zs_sh r = some (3, 10)) {i : Int} : zk_lo (r + 5) i = 0 ∧ zk_hi (r + 5) i = 400 := by
  rcases zk_w3 h with rfl | rfl | rfl <;> exact ⟨rfl, rfl⟩
theorem zk_a3_5 {r : Nat} (h : zs_sh r = some (3, 10)) {g : zi_M} (I : zk_I g) (i : Int) : 0 ≤ g (r + 5) i ∧ g (r + 5) i ≤ 400 := by
  have h1 := I.1 (r + 5) i
  rw [(zk_la3_5 h).1, (zk_la3_5 h).2] at h1
  exact h1
theorem zj_a3_6 {r : Nat} (h : zs_sh r = some (3, 10)) : zj_no (r + 6) = true := by
  rcases zk_w3 h with rfl | rfl | rfl <;> rfl
theorem zk_la3_6 {r : Nat} (h : zs_sh r = some (3, 10)) {i : Int} : zk_lo (r + 6) i = 0 ∧ zk_hi (r + 6) i = 400 := by
  rcases zk_w3 h with rfl | rfl | rfl <;> exact ⟨rfl, rfl⟩
theorem zk_a3_6 {r : Nat} (h : zs_sh r = some (3, 10)) {g : zi_M} (I : zk_I g) (i : Int) : 0 ≤ g (r + 6) i ∧ g (r + 6) i ≤ 400 := by
  have h1 := I.1 (r + 6) i
  rw [(zk_la3_6 h).1, (zk_la3_6 h).2] at h1
  exact h1
theorem zk_lc3_7 {r : Nat} (h : zs_sh r = some (3, 10)) : zk_lo r 7 = 0 ∧ zk_hi r 7 = 16 := by
  rcases zk_w3 h with rfl | rfl | rfl <;> exact ⟨rfl, rfl⟩
theorem zk_c3_7 {r : Nat} (h : zs_sh r = some (3, 10)) {g : zi_M} (I : zk_I g) : 0 ≤ g r 7 ∧ g r 7 ≤ 16 := by
  have h1 := I.1 r 7
  rw [(zk_lc3_7 h).1, (zk_lc3_7 h).2] at h1
  exact h1
theorem zj_a3_7 {r : Nat} (h : zs_sh r = some (3, 10)) : zj_no (r + 7) = true := by
  rcases zk_w3 h with rfl | rfl | rfl <;> rfl
theorem zk_la3_7 {r : Nat} (h : zs_sh r = some (3, 10)) {i : Int} : zk_lo (r + 7) i = (-2147483648) ∧ zk_hi (r + 7) i = 2147483647 := by
  rcases zk_w3 h with rfl | rfl | rfl <;> exact ⟨rfl, rfl⟩
theorem zk_a3_7 {r : Nat} (h : zs_sh r = some (3, 10)) {g : zi_M} (I : zk_I g) (i : Int) : (-2147483648) ≤ g (r + 7) i ∧ g (r + 7) i ≤ 2147483647 := by
  have h1 := I.1 (r + 7) i
  rw [(zk_la3_7 h).1, (zk_la3_7 h).2] at h1
  exact h1
theorem zj_a3_8 {r : Nat} (h : zs_sh r = some (3, 10)) : zj_no (r + 8) = true := by
  rcases zk_w3 h with rfl | rfl | rfl <;> rfl
theorem zk_la3_8 {r : Nat} (h : zs_sh r = some (3, 10)) {i : Int} : zk_lo (r + 8) i = (-2147483648) ∧ zk_hi (r + 8) i = 2147483647 := by
  rcases zk_w3 h with rfl | rfl | rfl <;> exact ⟨rfl, rfl⟩
theorem zk_a3_8 {r : Nat} (h : zs_sh r = some (3, 10)) {g : zi_M} (I : zk_I g) (i : Int) : (-2147483648) ≤ g (r + 8) i ∧ g (r + 8) i ≤ 2147483647 := by
  have h1 := I.1 (r + 8) i
  rw [(zk_la3_8 h).1, (zk_la3_8 h).2] at h1
  exact h1
theorem zk_w6 {r : Nat} (h : zs_sh r = some (6, 11)) : r = 19 ∨ r = 64 ∨ r = 195 := by
  have hd : ∀ r, r < 251 → zs_sh r = some (6, 11) → r = 19 ∨ r = 64 ∨ r = 195 := by decide +kernel
  exact hd r (zs_lt h).1 h
theorem zj_w6 {r : Nat} (h : zs_sh r = some (6, 11)) : zj_no r = true := by
  rcases zk_w6 h with rfl | rfl | rfl <;> rfl
theorem zj_a6_10 {r : Nat} (h : zs_sh r = some (6, 11)) : zj_no (r + 10) = true := by
  rcases zk_w6 h with rfl | rfl | rfl <;> rfl
theorem zk_la6_10 {r : Nat} (h : zs_sh r = some (6, 11)) {i : Int} : zk_lo (r + 10) i = (-1) ∧ zk_hi (r + 10) i = 9 := by
  rcases zk_w6 h with rfl | rfl | rfl <;> exact ⟨rfl, rfl⟩
theorem zk_a6_10 {r : Nat} (h : zs_sh r = some (6, 11)) {g : zi_M} (I : zk_I g) (i : Int) : (-1) ≤ g (r + 10) i ∧ g (r + 10) i ≤ 9 := by
  have h1 := I.1 (r + 10) i
  rw [(zk_la6_10 h).1, (zk_la6_10 h).2] at h1
  exact h1
theorem zk_lc6_2 {r : Nat} (h : zs_sh r = some (6, 11)) : zk_lo r 2 = 0 ∧ zk_hi r 2 = 17 := by
  rcases zk_w6 h with rfl | rfl | rfl <;> exact ⟨rfl, rfl⟩
theorem zk_c6_2 {r : Nat} (h : zs_sh r = some (6, 11)) {g : zi_M} (I : zk_I g) : 0 ≤ g r 2 ∧ g r 2 ≤ 17 := by
  have h1 := I.1 r 2
  rw [(zk_lc6_2 h).1, (zk_lc6_2 h).2] at h1
  exact h1
theorem zj_a6_11 {r : Nat} (h : zs_sh r = some (6, 11)) : zj_no (r + 11) = true := by
  rcases zk_w6 h with rfl | rfl | rfl <;> rfl
theorem zk_la6_11 {r : Nat} (h : zs_sh r = some (6, 11)) {i : Int} : zk_lo (r + 11) i = (-2147483648) ∧ zk_hi (r + 11) i = 2147483647 := by
  rcases zk_w6 h with rfl | rfl | rfl <;> exact ⟨rfl, rfl⟩
theorem zk_a6_11 {r : Nat} (h : zs_sh r = some (6, 11)) {g : zi_M} (I : zk_I g) (i : Int) : (-2147483648) ≤ g (r + 11) i ∧ g (r + 11) i ≤ 2147483647 := by
  have h1 := I.1 (r + 11) i
  rw [(zk_la6_11 h).1, (zk_la6_11 h).2] at h1
  exact h1
theorem zj_a6_12 {r : Nat} (h : zs_sh r = some (6, 11)) : zj_no (r + 12) = true := by
  rcases zk_w6 h with rfl | rfl | rfl <;> rfl
theorem zk_la6_12 {r : Nat} (h : zs_sh r = some (6, 11)) {i : Int} : zk_lo (r + 12) i = 0 ∧ zk_hi (r + 12) i = 9 := by
  rcases zk_w6 h with rfl | rfl | rfl <;> exact ⟨rfl, rfl⟩
theorem zk_a6_12 {r : Nat} (h : zs_sh r = some (6, 11)) {g : zi_M} (I : zk_I g) (i : Int) : 0 ≤ g (r + 12) i ∧ g (r + 12) i ≤ 9 := by
  have h1 := I.1 (r + 12) i
  rw [(zk_la6_12 h).1, (zk_la6_12 h).2] at h1
  exact h1
theorem zk_lc6_5 {r : Nat} (h : zs_sh r = some (6, 11)) : zk_lo r 5 = 0 ∧ zk_hi r 5 = 16 := by
  rcases zk_w6 h with rfl | rfl | rfl <;> exact ⟨rfl, rfl⟩
theorem zk_c6_5 {r : Nat} (h : zs_sh r = some (6, 11)) {g : zi_M} (I : zk_I g) : 0 ≤ g r 5 ∧ g r 5 ≤ 16 := by
  have h1 := I.1 r 5
  rw [(zk_lc6_5 h).1, (zk_lc6_5 h).2] at h1
  exact h1
theorem zj_a6_13 {r : Nat} (h : zs_sh r = some (6, 11)) : zj_no (r + 13) = true := by
  rcases zk_w6 h with rfl | rfl | rfl <;> rfl
theorem zk_la6_13 {r : Nat} (h : zs_sh r = some (6, 11)) {i : Int} : zk_lo (r + 13) i = (-2147483648) ∧ zk_hi (r + 13) i = 2147483647 := by
  rcases zk_w6 h with rfl | rfl | rfl <;> exact ⟨rfl, rfl⟩
theorem zk_a6_13 {r : Nat} (h : zs_sh r = some (6, 11)) {g : zi_M} (I : zk_I g) (i : Int) : (-2147483648) ≤ g (r + 13) i ∧ g (r + 13) i ≤ 2147483647 := by
  have h1 := I.1 (r + 13) i
  rw [(zk_la6_13 h).1, (zk_la6_13 h).2] at h1
  exact h1
theorem zj_a6_14 {r : Nat} (h : zs_sh r = some (6, 11)) : zj_no (r + 14) = true := by
  rcases zk_w6 h with rfl | rfl | rfl <;> rfl
theorem zk_la6_14 {r : Nat} (h : zs_sh r = some (6, 11)) {i : Int} : zk_lo (r + 14) i = (-2147483648) ∧ zk_hi (r + 14) i = 2147483647 := by
  rcases zk_w6 h with rfl | rfl | rfl <;> exact ⟨rfl, rfl⟩
theorem zk_a6_14 {r : Nat} (h : zs_sh r = some (6, 11)) {g : zi_M} (I : zk_I g) (i : Int) : (-2147483648) ≤ g (r + 14) i ∧ g (r + 14) i ≤ 2147483647 := by
  have h1 := I.1 (r + 14) i
  rw [(zk_la6_14 h).1, (zk_la6_14 h).2] at h1
  exact h1
theorem zj_a6_15 {r : Nat} (h : zs_sh r = some (6, 11)) : zj_no (r + 15) = true := by
  rcases zk_w6 h with rfl | rfl | rfl <;> rfl
theorem zk_la6_15 {r : Nat} (h : zs_sh r = some (6, 11)) {i : Int} : zk_lo (r + 15) i = (-2147483648) ∧ zk_hi (r + 15) i = 2147483647 := by
  rcases zk_w6 h with rfl | rfl | rfl <;> exact ⟨rfl, rfl⟩
theorem zk_a6_15 {r : Nat} (h : zs_sh r = some (6, 11)) {g : zi_M} (I : zk_I g) (i : Int) : (-2147483648) ≤ g (r + 15) i ∧ g (r + 15) i ≤ 2147483647 := by
  have h1 := I.1 (r + 15) i
  rw [(zk_la6_15 h).1, (zk_la6_15 h).2] at h1
  exact h1
theorem zj_a6_16 {r : Nat} (h : zs_sh r = some (6, 11)) : zj_no (r + 16) = true := by
  rcases zk_w6 h with rfl | rfl | rfl <;> rfl
theorem zk_la6_16 {r : Nat} (h : zs_sh r = some (6, 11)) {i : Int} : zk_lo (r + 16) i = (-2147483648) ∧ zk_hi (r + 16) i = 2147483647 := by
  rcases zk_w6 h with rfl | rfl | rfl <;> exact ⟨rfl, rfl⟩
theorem zk_a6_16 {r : Nat} (h : zs_sh r = some (6, 11)) {g : zi_M} (I : zk_I g) (i : Int) : (-2147483648) ≤ g (r + 16) i ∧ g (r + 16) i ≤ 2147483647 := by
  have h1 := I.1 (r + 16) i
  rw [(zk_la6_16 h).1, (zk_la6_16 h).2] at h1
  exact h1
theorem zk_lc6_10 {r : Nat} (h : zs_sh r = some (6, 11)) : zk_lo r 10 = 0 ∧ zk_hi r 10 = 16 := by
  rcases zk_w6 h with rfl | rfl | rfl <;> exact ⟨rfl, rfl⟩
theorem zk_c6_10 {r : Nat} (h : zs_sh r = some (6, 11)) {g : zi_M} (I : zk_I g) : 0 ≤ g r 10 ∧ g r 10 ≤ 16 := by
  have h1 := I.1 r 10
  rw [(zk_lc6_10 h).1, (zk_lc6_10 h).2] at h1
  exact h1
theorem zk_w9 {r : Nat} (h : zs_sh r = some (9, 13)) : r = 36 ∨ r = 81 := by
  have hd : ∀ r, r < 251 → zs_sh r = some (9, 13) → r = 36 ∨ r = 81 := by decide +kernel
  exact hd r (zs_lt h).1 h
theorem zj_w9 {r : Nat} (h : zs_sh r = some (9, 13)) : zj_no r = true := by
  rcases zk_w9 h with rfl | rfl <;> rfl
theorem zj_a9_1 {r : Nat} (h : zs_sh r = some (9, 13)) : zj_no (r + 1) = true := by
  rcases zk_w9 h with rfl | rfl <;> rfl
theorem zk_la9_1 {r : Nat} (h : zs_sh r = some (9, 13)) {i : Int} : zk_lo (r + 1) i = 0 ∧ zk_hi (r + 1) i = 7 := by
  rcases zk_w9 h with rfl | rfl <;> exact ⟨rfl, rfl⟩
theorem zk_a9_1 {r : Nat} (h : zs_sh r = some (9, 13)) {g : zi_M} (I : zk_I g) (i : Int) : 0 ≤ g (r + 1) i ∧ g (r + 1) i ≤ 7 := by
  have h1 := I.1 (r + 1) i
  rw [(zk_la9_1 h).1, (zk_la9_1 h).2] at h1
  exact h1
theorem zj_a9_2 {r : Nat} (h : zs_sh r = some (9, 13)) : zj_no (r + 2) = true := by
  rcases zk_w9 h with rfl | rfl <;> rfl
theorem zk_la9_2 {r : Nat} (h : zs_sh r = some (9, 13)) {i : Int} : zk_lo (r + 2) i = 0 ∧ zk_hi (r + 2) i = 9 := by
  rcases zk_w9 h with rfl | rfl <;> exact ⟨rfl, rfl⟩
theorem zk_a9_2 {r : Nat} (h : zs_sh r = some (9, 13)) {g : zi_M} (I : zk_I g) (i : Int) : 0 ≤ g (r + 2) i ∧ g (r + 2) i ≤ 9 := by
  have h1 := I.1 (r + 2) i
  rw [(zk_la9_2 h).1, (zk_la9_2 h).2] at h1
  exact h1
theorem zk_lc9_2 {r : Nat} (h : zs_sh r = some (9, 13)) : zk_lo r 2 = 0 ∧ zk_hi r 2 = 12 := by
  rcases zk_w9 h with rfl | rfl <;> exact ⟨rfl, rfl⟩
theorem zk_c9_2 {r : Nat} (h : zs_sh r = some (9, 13)) {g : zi_M} (I : zk_I g) : 0 ≤ g r 2 ∧ g r 2 ≤ 12 := by
  have h1 := I.1 r 2
  rw [(zk_lc9_2 h).1, (zk_lc9_2 h).2] at h1
  exact h1
theorem zj_a9_3 {r : Nat} (h : zs_sh r = some (9, 13)) : zj_no (r + 3) = true := by
  rcases zk_w9 h with rfl | rfl <;> rfl
theorem zk_la9_3 {r : Nat} (h : zs_sh r = some (9, 13)) {i : Int} : zk_lo (r + 3) i = 0 ∧ zk_hi (r + 3) i = 9 := by
  rcases zk_w9 h with rfl | rfl <;> exact ⟨rfl, rfl⟩
theorem zk_a9_3 {r : Nat} (h : zs_sh r = some (9, 13)) {g : zi_M} (I : zk_I g) (i : Int) : 0 ≤ g (r + 3) i ∧ g (r + 3) i ≤ 9 := by
  have h1 := I.1 (r + 3) i
  rw [(zk_la9_3 h).1, (zk_la9_3 h).2] at h1
  exact h1
theorem zj_a9_4 {r : Nat} (h : zs_sh r = some (9, 13)) : zj_no (r + 4) = true := by
  rcases zk_w9 h with rfl | rfl <;> rfl
theorem zk_la9_4 {r : Nat} (h : zs_sh r = some (9, 13)) {i : Int} : zk_lo (r + 4) i = 0 ∧ zk_hi (r + 4) i = 9 := by
  rcases zk_w9 h with rfl | rfl <;> exact ⟨rfl, rfl⟩
theorem zk_a9_4 {r : Nat} (h : zs_sh r = some (9, 13)) {g : zi_M} (I : zk_I g) (i : Int) : 0 ≤ g (r + 4) i ∧ g (r + 4) i ≤ 9 := by
  have h1 := I.1 (r + 4) i
  rw [(zk_la9_4 h).1, (zk_la9_4 h).2] at h1
  exact h1
theorem zk_lc9_5 {r : Nat} (h : zs_sh r = some (9, 13)) : zk_lo r 5 = 0 ∧ zk_hi r 5 = 14 := by
  rcases zk_w9 h with rfl | rfl <;> exact ⟨rfl, rfl⟩
theorem zk_c9_5 {r : Nat} (h : zs_sh r = some (9, 13)) {g : zi_M} (I : zk_I g) : 0 ≤ g r 5 ∧ g r 5 ≤ 14 := by
  have h1 := I.1 r 5
  rw [(zk_lc9_5 h).1, (zk_lc9_5 h).2] at h1
  exact h1
theorem zj_a9_5 {r : Nat} (h : zs_sh r = some (9, 13)) : zj_no (r + 5) = true := by
  rcases zk_w9 h with rfl | rfl <;> rfl
theorem zk_la9_5 {r : Nat} (h : zs_sh r = some (9, 13)) {i : Int} : zk_lo (r + 5) i = 0 ∧ zk_hi (r + 5) i = 15 := by
  rcases zk_w9 h with rfl | rfl <;> exact ⟨rfl, rfl⟩
theorem zk_a9_5 {r : Nat} (h : zs_sh r = some (9, 13)) {g : zi_M} (I : zk_I g) (i : Int) : 0 ≤ g (r + 5) i ∧ g (r + 5) i ≤ 15 := by
  have h1 := I.1 (r + 5) i
  rw [(zk_la9_5 h).1, (zk_la9_5 h).2] at h1
  exact h1
theorem zj_a9_6 {r : Nat} (h : zs_sh r = some (9, 13)) : zj_no (r + 6) = true := by
  rcases zk_w9 h with rfl | rfl <;> rfl
theorem zk_la9_6 {r : Nat} (h : zs_sh r = some (9, 13)) {i : Int} : zk_lo (r + 6) i = 0 ∧ zk_hi (r + 6) i = 3 := by
  rcases zk_w9 h with rfl | rfl <;> exact ⟨rfl, rfl⟩
theorem zk_a9_6 {r : Nat} (h : zs_sh r = some (9, 13)) {g : zi_M} (I : zk_I g) (i : Int) : 0 ≤ g (r + 6) i ∧ g (r + 6) i ≤ 3 := by
  have h1 := I.1 (r + 6) i
  rw [(zk_la9_6 h).1, (zk_la9_6 h).2] at h1
  exact h1
theorem zj_a9_7 {r : Nat} (h : zs_sh r = some (9, 13)) : zj_no (r + 7) = true := by
  rcases zk_w9 h with rfl | rfl <;> rfl
theorem zk_la9_7 {r : Nat} (h : zs_sh r = some (9, 13)) {i : Int} : zk_lo (r + 7) i = 0 ∧ zk_hi (r + 7) i = 3 := by
  rcases zk_w9 h with rfl | rfl <;> exact ⟨rfl, rfl⟩
theorem zk_a9_7 {r : Nat} (h : zs_sh r = some (9, 13)) {g : zi_M} (I : zk_I g) (i : Int) : 0 ≤ g (r + 7) i ∧ g (r + 7) i ≤ 3 := by
  have h1 := I.1 (r + 7) i
  rw [(zk_la9_7 h).1, (zk_la9_7 h).2] at h1
  exact h1
theorem zj_a9_8 {r : Nat} (h : zs_sh r = some (9, 13)) : zj_no (r + 8) = true := by
  rcases zk_w9 h with rfl | rfl <;> rfl
theorem zk_la9_8 {r : Nat} (h : zs_sh r = some (9, 13)) {i : Int} : zk_lo (r + 8) i = 0 ∧ zk_hi (r + 8) i = 9 := by
  rcases zk_w9 h with rfl | rfl <;> exact ⟨rfl, rfl⟩
theorem zk_a9_8 {r : Nat} (h : zs_sh r = some (9, 13)) {g : zi_M} (I : zk_I g) (i : Int) : 0 ≤ g (r + 8) i ∧ g (r + 8) i ≤ 9 := by
  have h1 := I.1 (r + 8) i
  rw [(zk_la9_8 h).1, (zk_la9_8 h).2] at h1
  exact h1
theorem zk_lc9_10 {r : Nat} (h : zs_sh r = some (9, 13)) : zk_lo r 10 = 0 ∧ zk_hi r 10 = 40 := by
  rcases zk_w9 h with rfl | rfl <;> exact ⟨rfl, rfl⟩
theorem zk_c9_10 {r : Nat} (h : zs_sh r = some (9, 13)) {g : zi_M} (I : zk_I g) : 0 ≤ g r 10 ∧ g r 10 ≤ 40 := by
  have h1 := I.1 r 10
  rw [(zk_lc9_10 h).1, (zk_lc9_10 h).2] at h1
  exact h1
theorem zj_a9_9 {r : Nat} (h : zs_sh r = some (9, 13)) : zj_no (r + 9) = true := by
  rcases zk_w9 h with rfl | rfl <;> rfl
theorem zk_la9_9 {r : Nat} (h : zs_sh r = some (9, 13)) {i : Int} : zk_lo (r + 9) i = 0 ∧ zk_hi (r + 9) i = 60 := by
  rcases zk_w9 h with rfl | rfl <;> exact ⟨rfl, rfl⟩
theorem zk_a9_9 {r : Nat} (h : zs_sh r = some (9, 13)) {g : zi_M} (I : zk_I g) (i : Int) : 0 ≤ g (r + 9) i ∧ g (r + 9) i ≤ 60 := by
  have h1 := I.1 (r + 9) i
  rw [(zk_la9_9 h).1, (zk_la9_9 h).2] at h1
  exact h1
theorem zk_lc9_12 {r : Nat} (h : zs_sh r = some (9, 13)) : zk_lo r 12 = 0 ∧ zk_hi r 12 = 12 := by
  rcases zk_w9 h with rfl | rfl <;> exact ⟨rfl, rfl⟩
theorem zk_c9_12 {r : Nat} (h : zs_sh r = some (9, 13)) {g : zi_M} (I : zk_I g) : 0 ≤ g r 12 ∧ g r 12 ≤ 12 := by
  have h1 := I.1 r 12
  rw [(zk_lc9_12 h).1, (zk_lc9_12 h).2] at h1
  exact h1
theorem zk_w10 {r : Nat} (h : zs_sh r = some (10, 20)) : r = 2 ∨ r = 47 ∨ r = 93 ∨ r = 105 ∨ r = 117 ∨ r = 129 ∨ r = 141 ∨ r = 153 ∨ r = 165 := by
  have hd : ∀ r, r < 251 → zs_sh r = some (10, 20) → r = 2 ∨ r = 47 ∨ r = 93 ∨ r = 105 ∨ r = 117 ∨ r = 129 ∨ r = 141 ∨ r = 153 ∨ r = 165 := by decide +kernel
  exact hd r (zs_lt h).1 h
theorem zj_w10 {r : Nat} (h : zs_sh r = some (10, 20)) : zj_no r = true := by
  rcases zk_w10 h with rfl | rfl | rfl | rfl | rfl | rfl | rfl | rfl | rfl <;> rfl
theorem zk_lc10_0 {r : Nat} (h : zs_sh r = some (10, 20)) : zk_lo r 0 = 0 ∧ zk_hi r 0 = 1 := by
  rcases zk_w10 h with rfl | rfl | rfl | rfl | rfl | rfl | rfl | rfl | rfl <;> exact ⟨rfl, rfl⟩
theorem zk_c10_0 {r : Nat} (h : zs_sh r = some (10, 20)) {g : zi_M} (I : zk_I g) : 0 ≤ g r 0 ∧ g r 0 ≤ 1 := by
  have h1 := I.1 r 0
  rw [(zk_lc10_0 h).1, (zk_lc10_0 h).2] at h1
  exact h1
theorem zj_a10_1 {r : Nat} (h : zs_sh r = some (10, 20)) : zj_no (r + 1) = true := by
  rcases zk_w10 h with rfl | rfl | rfl | rfl | rfl | rfl | rfl | rfl | rfl <;> rfl
theorem zk_la10_1 {r : Nat} (h : zs_sh r = some (10, 20)) {i : Int} : zk_lo (r + 1) i = 0 ∧ zk_hi (r + 1) i = 5 := by
  rcases zk_w10 h with rfl | rfl | rfl | rfl | rfl | rfl | rfl | rfl | rfl <;> exact ⟨rfl, rfl⟩
theorem zk_a10_1 {r : Nat} (h : zs_sh r = some (10, 20)) {g : zi_M} (I : zk_I g) (i : Int) : 0 ≤ g (r + 1) i ∧ g (r + 1) i ≤ 5 := by
  have h1 := I.1 (r + 1) i
  rw [(zk_la10_1 h).1, (zk_la10_1 h).2] at h1
  exact h1
theorem zj_a10_2 {r : Nat} (h : zs_sh r = some (10, 20)) : zj_no (r + 2) = true := by
  rcases zk_w10 h with rfl | rfl | rfl | rfl | rfl | rfl | rfl | rfl | rfl <;> rfl
theorem zk_la10_2 {r : Nat} (h : zs_sh r = some (10, 20)) {i : Int} : zk_lo (r + 2) i = 0 ∧ zk_hi (r + 2) i = 3 := by
  rcases zk_w10 h with rfl | rfl | rfl | rfl | rfl | rfl | rfl | rfl | rfl <;> exact ⟨rfl, rfl⟩
theorem zk_a10_2 {r : Nat} (h : zs_sh r = some (10, 20)) {g : zi_M} (I : zk_I g) (i : Int) : 0 ≤ g (r + 2) i ∧ g (r + 2) i ≤ 3 := by
  have h1 := I.1 (r + 2) i
  rw [(zk_la10_2 h).1, (zk_la10_2 h).2] at h1
  exact h1
theorem zj_a10_3 {r : Nat} (h : zs_sh r = some (10, 20)) : zj_no (r + 3) = true := by
  rcases zk_w10 h with rfl | rfl | rfl | rfl | rfl | rfl | rfl | rfl | rfl <;> rfl
theorem zk_la10_3 {r : Nat} (h : zs_sh r = some (10, 20)) {i : Int} : zk_lo (r + 3) i = 0 ∧ zk_hi (r + 3) i = 99 := by
  rcases zk_w10 h with rfl | rfl | rfl | rfl | rfl | rfl | rfl | rfl | rfl <;> exact ⟨rfl, rfl⟩
theorem zk_a10_3 {r : Nat} (h : zs_sh r = some (10, 20)) {g : zi_M} (I : zk_I g) (i : Int) : 0 ≤ g (r + 3) i ∧ g (r + 3) i ≤ 99 := by
  have h1 := I.1 (r + 3) i
  rw [(zk_la10_3 h).1, (zk_la10_3 h).2] at h1
  exact h1
theorem zj_a10_4 {r : Nat} (h : zs_sh r = some (10, 20)) : zj_no (r + 4) = true := by
  rcases zk_w10 h with rfl | rfl | rfl | rfl | rfl | rfl | rfl | rfl | rfl <;> rfl
theorem zk_la10_4 {r : Nat} (h : zs_sh r = some (10, 20)) {i : Int} : zk_lo (r + 4) i = 0 ∧ zk_hi (r + 4) i = 2 := by
  rcases zk_w10 h with rfl | rfl | rfl | rfl | rfl | rfl | rfl | rfl | rfl <;> exact ⟨rfl, rfl⟩
theorem zk_a10_4 {r : Nat} (h : zs_sh r = some (10, 20)) {g : zi_M} (I : zk_I g) (i : Int) : 0 ≤ g (r + 4) i ∧ g (r + 4) i ≤ 2 := by
  have h1 := I.1 (r + 4) i
  rw [(zk_la10_4 h).1, (zk_la10_4 h).2] at h1
  exact h1
theorem zj_a10_5 {r : Nat} (h : zs_sh r = some (10, 20)) : zj_no (r + 5) = true := by
  rcases zk_w10 h with rfl | rfl | rfl | rfl | rfl | rfl | rfl | rfl | rfl <;> rfl
theorem zk_la10_5 {r : Nat} (h : zs_sh r = some (10, 20)) {i : Int} : zk_lo (r + 5) i = 0 ∧ zk_hi (r + 5) i = 999 := by
  rcases zk_w10 h with rfl | rfl | rfl | rfl | rfl | rfl | rfl | rfl | rfl <;> exact ⟨rfl, rfl⟩
theorem zk_a10_5 {r : Nat} (h : zs_sh r = some (10, 20)) {g : zi_M} (I : zk_I g) (i : Int) : 0 ≤ g (r + 5) i ∧ g (r + 5) i ≤ 999 := by
  have h1 := I.1 (r + 5) i
  rw [(zk_la10_5 h).1, (zk_la10_5 h).2] at h1
  exact h1
theorem zj_a10_6 {r : Nat} (h : zs_sh r = some (10, 20)) : zj_no (r + 6) = true := by
  rcases zk_w10 h with rfl | rfl | rfl | rfl | rfl | rfl | rfl | rfl | rfl <;> rfl
theorem zk_la10_6 {r : Nat} (h : zs_sh r = some (10, 20)) {i : Int} : zk_lo (r + 6) i = 0 ∧ zk_hi (r + 6) i = 20 := by
  rcases zk_w10 h with rfl | rfl | rfl | rfl | rfl | rfl | rfl | rfl | rfl <;> exact ⟨rfl, rfl⟩
theorem zk_a10_6 {r : Nat} (h : zs_sh r = some (10, 20)) {g : zi_M} (I : zk_I g) (i : Int) : 0 ≤ g (r + 6) i ∧ g (r + 6) i ≤ 20 := by
  have h1 := I.1 (r + 6) i
  rw [(zk_la10_6 h).1, (zk_la10_6 h).2] at h1
  exact h1
theorem zj_a10_7 {r : Nat} (h : zs_sh r = some (10, 20)) : zj_no (r + 7) = true := by
  rcases zk_w10 h with rfl | rfl | rfl | rfl | rfl | rfl | rfl | rfl | rfl <;> rfl
theorem zk_la10_7 {r : Nat} (h : zs_sh r = some (10, 20)) {i : Int} : zk_lo (r + 7) i = 0 ∧ zk_hi (r + 7) i = 15 := by
  rcases zk_w10 h with rfl | rfl | rfl | rfl | rfl | rfl | rfl | rfl | rfl <;> exact ⟨rfl, rfl⟩
theorem zk_a10_7 {r : Nat} (h : zs_sh r = some (10, 20)) {g : zi_M} (I : zk_I g) (i : Int) : 0 ≤ g (r + 7) i ∧ g (r + 7) i ≤ 15 := by
  have h1 := I.1 (r + 7) i
  rw [(zk_la10_7 h).1, (zk_la10_7 h).2] at h1
  exact h1
theorem zk_lc10_8 {r : Nat} (h : zs_sh r = some (10, 20)) : zk_lo r 8 = 0 ∧ zk_hi r 8 = 10 := by
  rcases zk_w10 h with rfl | rfl | rfl | rfl | rfl | rfl | rfl | rfl | rfl <;> exact ⟨rfl, rfl⟩
theorem zk_c10_8 {r : Nat} (h : zs_sh r = some (10, 20)) {g : zi_M} (I : zk_I g) : 0 ≤ g r 8 ∧ g r 8 ≤ 10 := by
  have h1 := I.1 r 8
  rw [(zk_lc10_8 h).1, (zk_lc10_8 h).2] at h1
  exact h1
theorem zj_a10_8 {r : Nat} (h : zs_sh r = some (10, 20)) : zj_no (r + 8) = true := by
  rcases zk_w10 h with rfl | rfl | rfl | rfl | rfl | rfl | rfl | rfl | rfl <;> rfl
theorem zk_la10_8 {r : Nat} (h : zs_sh r = some (10, 20)) {i : Int} : zk_lo (r + 8) i = (-2147483648) ∧ zk_hi (r + 8) i = 2147483647 := by
  rcases zk_w10 h with rfl | rfl | rfl | rfl | rfl | rfl | rfl | rfl | rfl <;> exact ⟨rfl, rfl⟩
theorem zk_a10_8 {r : Nat} (h : zs_sh r = some (10, 20)) {g : zi_M} (I : zk_I g) (i : Int) : (-2147483648) ≤ g (r + 8) i ∧ g (r + 8) i ≤ 2147483647 := by
  have h1 := I.1 (r + 8) i
  rw [(zk_la10_8 h).1, (zk_la10_8 h).2] at h1
  exact h1
theorem zj_a10_9 {r : Nat} (h : zs_sh r = some (10, 20)) : zj_no (r + 9) = true := by
  rcases zk_w10 h with rfl | rfl | rfl | rfl | rfl | rfl | rfl | rfl | rfl <;> rfl
theorem zk_la10_9 {r : Nat} (h : zs_sh r = some (10, 20)) {i : Int} : zk_lo (r + 9) i = (-1) ∧ zk_hi (r + 9) i = 9 := by
  rcases zk_w10 h with rfl | rfl | rfl | rfl | rfl | rfl | rfl | rfl | rfl <;> exact ⟨rfl, rfl⟩
theorem zk_a10_9 {r : Nat} (h : zs_sh r = some (10, 20)) {g : zi_M} (I : zk_I g) (i : Int) : (-1) ≤ g (r + 9) i ∧ g (r + 9) i ≤ 9 := by
  have h1 := I.1 (r + 9) i
  rw [(zk_la10_9 h).1, (zk_la10_9 h).2] at h1
  exact h1
theorem zk_lc10_11 {r : Nat} (h : zs_sh r = some (10, 20)) : zk_lo r 11 = 0 ∧ zk_hi r 11 = 8 := by
  rcases zk_w10 h with rfl | rfl | rfl | rfl | rfl | rfl | rfl | rfl | rfl <;> exact ⟨rfl, rfl⟩
theorem zk_c10_11 {r : Nat} (h : zs_sh r = some (10, 20)) {g : zi_M} (I : zk_I g) : 0 ≤ g r 11 ∧ g r 11 ≤ 8 := by
  have h1 := I.1 r 11
  rw [(zk_lc10_11 h).1, (zk_lc10_11 h).2] at h1
  exact h1
theorem zj_a10_10 {r : Nat} (h : zs_sh r = some (10, 20)) : zj_no (r + 10) = true := by
  rcases zk_w10 h with rfl | rfl | rfl | rfl | rfl | rfl | rfl | rfl | rfl <;> rfl
theorem zk_la10_10 {r : Nat} (h : zs_sh r = some (10, 20)) {i : Int} : zk_lo (r + 10) i = (-1) ∧ zk_hi (r + 10) i = 9 := by
  rcases zk_w10 h with rfl | rfl | rfl | rfl | rfl | rfl | rfl | rfl | rfl <;> exact ⟨rfl, rfl⟩
theorem zk_a10_10 {r : Nat} (h : zs_sh r = some (10, 20)) {g : zi_M} (I : zk_I g) (i : Int) : (-1) ≤ g (r + 10) i ∧ g (r + 10) i ≤ 9 := by
  have h1 := I.1 (r + 10) i
  rw [(zk_la10_10 h).1, (zk_la10_10 h).2] at h1
  exact h1
theorem zj_a10_11 {r : Nat} (h : zs_sh r = some (10, 20)) : zj_no (r + 11) = true := by
  rcases zk_w10 h with rfl | rfl | rfl | rfl | rfl | rfl | rfl | rfl | rfl <;> rfl
theorem zk_la10_11 {r : Nat} (h : zs_sh r = some (10, 20)) {i : Int} : zk_lo (r + 11) i = (-2147483648) ∧ zk_hi (r + 11) i = 2147483647 := by
  rcases zk_w10 h with rfl | rfl | rfl | rfl | rfl | rfl | rfl | rfl | rfl <;> exact ⟨rfl, rfl⟩
theorem zk_a10_11 {r : Nat} (h : zs_sh r = some (10, 20)) {g : zi_M} (I : zk_I g) (i : Int) : (-2147483648) ≤ g (r + 11) i ∧ g (r + 11) i ≤ 2147483647 := by
  have h1 := I.1 (r + 11) i
  rw [(zk_la10_11 h).1, (zk_la10_11 h).2] at h1
  exact h1
theorem zk_lc10_14 {r : Nat} (h : zs_sh r = some (10, 20)) : zk_lo r 14 = 0 ∧ zk_hi r 14 = 9 := by
  rcases zk_w10 h with rfl | rfl | rfl | rfl | rfl | rfl | rfl | rfl | rfl <;> exact ⟨rfl, rfl⟩
theorem zk_c10_14 {r : Nat} (h : zs_sh r = some (10, 20)) {g : zi_M} (I : zk_I g) : 0 ≤ g r 14 ∧ g r 14 ≤ 9 := by
  have h1 := I.1 r 14
  rw [(zk_lc10_14 h).1, (zk_lc10_14 h).2] at h1
  exact h1
theorem zk_lc10_15 {r : Nat} (h : zs_sh r = some (10, 20)) : zk_lo r 15 = (-2147483648) ∧ zk_hi r 15 = 2147483647 := by
  rcases zk_w10 h with rfl | rfl | rfl | rfl | rfl | rfl | rfl | rfl | rfl <;> exact ⟨rfl, rfl⟩
theorem zk_c10_15 {r : Nat} (h : zs_sh r = some (10, 20)) {g : zi_M} (I : zk_I g) : (-2147483648) ≤ g r 15 ∧ g r 15 ≤ 2147483647 := by
  have h1 := I.1 r 15
  rw [(zk_lc10_15 h).1, (zk_lc10_15 h).2] at h1
  exact h1
theorem zk_lc10_16 {r : Nat} (h : zs_sh r = some (10, 20)) : zk_lo r 16 = (-2147483648) ∧ zk_hi r 16 = 2147483647 := by
  rcases zk_w10 h with rfl | rfl | rfl | rfl | rfl | rfl | rfl | rfl | rfl <;> exact ⟨rfl, rfl⟩
theorem zk_c10_16 {r : Nat} (h : zs_sh r = some (10, 20)) {g : zi_M} (I : zk_I g) : (-2147483648) ≤ g r 16 ∧ g r 16 ≤ 2147483647 := by
  have h1 := I.1 r 16
  rw [(zk_lc10_16 h).1, (zk_lc10_16 h).2] at h1
  exact h1
theorem zk_lc10_17 {r : Nat} (h : zs_sh r = some (10, 20)) : zk_lo r 17 = (-2147483648) ∧ zk_hi r 17 = 2147483647 := by
  rcases zk_w10 h with rfl | rfl | rfl | rfl | rfl | rfl | rfl | rfl | rfl <;> exact ⟨rfl, rfl⟩
theorem zk_c10_17 {r : Nat} (h : zs_sh r = some (10, 20)) {g : zi_M} (I : zk_I g) : (-2147483648) ≤ g r 17 ∧ g r 17 ≤ 2147483647 := by
  have h1 := I.1 r 17
  rw [(zk_lc10_17 h).1, (zk_lc10_17 h).2] at h1
  exact h1
theorem zk_lc10_18 {r : Nat} (h : zs_sh r = some (10, 20)) : zk_lo r 18 = (-2147483648) ∧ zk_hi r 18 = 2147483647 := by
  rcases zk_w10 h with rfl | rfl | rfl | rfl | rfl | rfl | rfl | rfl | rfl <;> exact ⟨rfl, rfl⟩
theorem zk_c10_18 {r : Nat} (h : zs_sh r = some (10, 20)) {g : zi_M} (I : zk_I g) : (-2147483648) ≤ g r 18 ∧ g r 18 ≤ 2147483647 := by
  have h1 := I.1 r 18
  rw [(zk_lc10_18 h).1, (zk_lc10_18 h).2] at h1
  exact h1
theorem zk_lc10_19 {r : Nat} (h : zs_sh r = some (10, 20)) : zk_lo r 19 = 0 ∧ zk_hi r 19 = 150 := by
  rcases zk_w10 h with rfl | rfl | rfl | rfl | rfl | rfl | rfl | rfl | rfl <;> exact ⟨rfl, rfl⟩
theorem zk_c10_19 {r : Nat} (h : zs_sh r = some (10, 20)) {g : zi_M} (I : zk_I g) : 0 ≤ g r 19 ∧ g r 19 ≤ 150 := by
  have h1 := I.1 r 19
  rw [(zk_lc10_19 h).1, (zk_lc10_19 h).2] at h1
  exact h1
