-- by program (wip/gen/mkzr.py): RULES over whole numbers
noncomputable def zs_sh (i : Nat) : Option (Nat × Nat) := bif Nat.ble 251 i then none else (bif Nat.ble 125 i then (bif Nat.ble 188 i then (bif Nat.ble 219 i then (bif Nat.ble 235 i then (bif Nat.ble 243 i then (bif Nat.ble 247 i then (bif Nat.ble 249 i then (bif Nat.ble 250 i then (bif Nat.beq i 250 then some (13, 2300) else none) else (bif Nat.beq i 249 then some (13, 91) else none)) else (bif Nat.ble 248 i then (bif Nat.beq i 248 then some (13, 12) else none) else (bif Nat.beq i 247 then some (13, 40) else none))) else (bif Nat.ble 245 i then (bif Nat.ble 246 i then (bif Nat.beq i 246 then some (13, 4) else none) else (bif Nat.beq i 245 then some (13, 4) else none)) else (bif Nat.ble 244 i then (bif Nat.beq i 244 then some (13, 32) else none) else (bif Nat.beq i 243 then some (13, 16) else none)))) else (bif Nat.ble 239 i then (bif Nat.ble 241 i then (bif Nat.ble 242 i then (bif Nat.beq i 242 then some (13, 10) else none) else (bif Nat.beq i 241 then some (13, 1024) else none)) else (bif Nat.ble 240 i then (bif Nat.beq i 240 then some (13, 12) else none) else (bif Nat.beq i 239 then some (13, 8) else none))) else (bif Nat.ble 237 i then (bif Nat.ble 238 i then (bif Nat.beq i 238 then some (13, 90) else none) else (bif Nat.beq i 237 then some (13, 90) else none)) else (bif Nat.ble 236 i then (bif Nat.beq i 236 then some (13, 420) else none) else (bif Nat.beq i 235 then some (13, 9) else none))))) else (bif Nat.ble 227 i then (bif Nat.ble 231 i then (bif Nat.ble 233 i then (bif Nat.ble 234 i then (bif Nat.beq i 234 then some (13, 128) else none) else (bif Nat.beq i 233 then some (13, 64) else none)) else (bif Nat.ble 232 i then (bif Nat.beq i 232 then some (13, 20) else none) else (bif Nat.beq i 231 then some (13, 40) else none))) else (bif Nat.ble 229 i then (bif Nat.ble 230 i then (bif Nat.beq i 230 then some (13, 1200) else none) else (bif Nat.beq i 229 then some (13, 1200) else none)) else (bif Nat.ble 228 i then (bif Nat.beq i 228 then some (13, 48) else none) else (bif Nat.beq i 227 then some (13, 48) else none)))) else (bif Nat.ble 223 i then (bif Nat.ble 225 i then (bif Nat.ble 226 i then (bif Nat.beq i 226 then some (13, 48) else none) else (bif Nat.beq i 225 then some (13, 48) else none)) else (bif Nat.ble 224 i then (bif Nat.beq i 224 then some (13, 2) else none) else (bif Nat.beq i 223 then some (13, 129) else none))) else (bif Nat.ble 221 i then (bif Nat.ble 222 i then (bif Nat.beq i 222 then some (13, 400) else none) else (bif Nat.beq i 221 then some (13, 600) else none)) else (bif Nat.ble 220 i then (bif Nat.beq i 220 then some (13, 10) else none) else (bif Nat.beq i 219 then some (13, 10) else none)))))) else (bif Nat.ble 203 i then (bif Nat.ble 211 i then (bif Nat.ble 215 i then (bif Nat.ble 217 i then (bif Nat.ble 218 i then (bif Nat.beq i 218 then some (13, 10) else none) else (bif Nat.beq i 217 then some (13, 264) else none)) else (bif Nat.ble 216 i then (bif Nat.beq i 216 then some (13, 1584) else none) else (bif Nat.beq i 215 then some (13, 264) else none))) else (bif Nat.ble 213 i then (bif Nat.ble 214 i then (bif Nat.beq i 214 then some (12, 65) else none) else (bif Nat.beq i 213 then some (13, 40) else none)) else (bif Nat.ble 212 i then (bif Nat.beq i 212 then some (4, 4) else none) else (bif Nat.beq i 211 then some (13, 16) else none)))) else (bif Nat.ble 207 i then (bif Nat.ble 209 i then (bif Nat.ble 210 i then (bif Nat.beq i 210 then some (13, 16) else none) else (bif Nat.beq i 209 then some (13, 16) else none)) else (bif Nat.ble 208 i then (bif Nat.beq i 208 then some (13, 16) else none) else (bif Nat.beq i 207 then some (13, 16) else none))) else (bif Nat.ble 205 i then (bif Nat.ble 206 i then (bif Nat.beq i 206 then some (13, 16) else none) else (bif Nat.beq i 205 then some (13, 10) else none)) else (bif Nat.ble 204 i then (bif Nat.beq i 204 then some (13, 9) else none) else (bif Nat.beq i 203 then some (13, 40) else none))))) else (bif Nat.ble 195 i then (bif Nat.ble 199 i then (bif Nat.ble 201 i then (bif Nat.ble 202 i then (bif Nat.beq i 202 then some (13, 16) else none) else (bif Nat.beq i 201 then some (13, 16) else none)) else (bif Nat.ble 200 i then (bif Nat.beq i 200 then some (13, 16) else none) else (bif Nat.beq i 199 then some (13, 16) else none))) else (bif Nat.ble 197 i then (bif Nat.ble 198 i then (bif Nat.beq i 198 then some (13, 400) else none) else (bif Nat.beq i 197 then some (13, 400) else none)) else (bif Nat.ble 196 i then (bif Nat.beq i 196 then some (3, 10) else none) else (bif Nat.beq i 195 then some (6, 11) else none)))) else (bif Nat.ble 191 i then (bif Nat.ble 193 i then (bif Nat.ble 194 i then (bif Nat.beq i 194 then some (13, 401) else none) else (bif Nat.beq i 193 then some (13, 401) else none)) else (bif Nat.ble 192 i then (bif Nat.beq i 192 then some (13, 401) else none) else (bif Nat.beq i 191 then some (8, 7) else none))) else (bif Nat.ble 189 i then (bif Nat.ble 190 i then (bif Nat.beq i 190 then some (13, 400) else none) else (bif Nat.beq i 189 then some (13, 91) else none)) else (bif Nat.beq i 188 then some (13, 4) else none)))))) else (bif Nat.ble 156 i then (bif Nat.ble 172 i then (bif Nat.ble 180 i then (bif Nat.ble 184 i then (bif Nat.ble 186 i then (bif Nat.ble 187 i then (bif Nat.beq i 187 then some (13, 4) else none) else (bif Nat.beq i 186 then some (13, 4) else none)) else (bif Nat.ble 185 i then (bif Nat.beq i 185 then some (13, 10) else none) else (bif Nat.beq i 184 then some (13, 10) else none))) else (bif Nat.ble 182 i then (bif Nat.ble 183 i then (bif Nat.beq i 183 then some (13, 80) else none) else (bif Nat.beq i 182 then some (13, 8) else none)) else (bif Nat.ble 181 i then (bif Nat.beq i 181 then some (13, 8) else none) else (bif Nat.beq i 180 then some (7, 13) else none)))) else (bif Nat.ble 176 i then (bif Nat.ble 178 i then (bif Nat.ble 179 i then (bif Nat.beq i 179 then some (13, 90) else none) else (bif Nat.beq i 178 then some (13, 90) else none)) else (bif Nat.ble 177 i then (bif Nat.beq i 177 then some (2, 3) else none) else (bif Nat.beq i 176 then some (13, 6) else none))) else (bif Nat.ble 174 i then (bif Nat.ble 175 i then (bif Nat.beq i 175 then some (13, 6) else none) else (bif Nat.beq i 174 then some (13, 8) else none)) else (bif Nat.ble 173 i then (bif Nat.beq i 173 then some (13, 8) else none) else (bif Nat.beq i 172 then some (13, 200) else none))))) else (bif Nat.ble 164 i then (bif Nat.ble 168 i then (bif Nat.ble 170 i then (bif Nat.ble 171 i then (bif Nat.beq i 171 then some (13, 10) else none) else (bif Nat.beq i 170 then some (13, 10) else none)) else (bif Nat.ble 169 i then (bif Nat.beq i 169 then some (13, 10) else none) else (bif Nat.beq i 168 then some (13, 10) else none))) else (bif Nat.ble 166 i then (bif Nat.ble 167 i then (bif Nat.beq i 167 then some (13, 10) else none) else (bif Nat.beq i 166 then some (13, 10) else none)) else (bif Nat.ble 165 i then (bif Nat.beq i 165 then some (10, 20) else none) else (bif Nat.beq i 164 then some (13, 6) else none)))) else (bif Nat.ble 160 i then (bif Nat.ble 162 i then (bif Nat.ble 163 i then (bif Nat.beq i 163 then some (13, 6) else none) else (bif Nat.beq i 162 then some (13, 8) else none)) else (bif Nat.ble 161 i then (bif Nat.beq i 161 then some (13, 8) else none) else (bif Nat.beq i 160 then some (13, 200) else none))) else (bif Nat.ble 158 i then (bif Nat.ble 159 i then (bif Nat.beq i 159 then some (13, 10) else none) else (bif Nat.beq i 158 then some (13, 10) else none)) else (bif Nat.ble 157 i then (bif Nat.beq i 157 then some (13, 10) else none) else (bif Nat.beq i 156 then some (13, 10) else none)))))) else (bif Nat.ble 140 i then (bif Nat.ble 148 i then (bif Nat.ble 152 i then (bif Nat.ble 154 i then (bif Nat.ble 155 i then (bif Nat.beq i 155 then some (13, 10) else none) else (bif Nat.beq i 154 then some (13, 10) else none)) else (bif Nat.ble 153 i then (bif Nat.beq i 153 then some (10, 20) else none) else (bif Nat.beq i 152 then some (13, 6) else none))) else (bif Nat.ble 150 i then (bif Nat.ble 151 i then (bif Nat.beq i 151 then some (13, 6) else none) else (bif Nat.beq i 150 then some (13, 8) else none)) else (bif Nat.ble 149 i then (bif Nat.beq i 149 then some (13, 8) else none) else (bif Nat.beq i 148 then some (13, 200) else none)))) else (bif Nat.ble 144 i then (bif Nat.ble 146 i then (bif Nat.ble 147 i then (bif Nat.beq i 147 then some (13, 10) else none) else (bif Nat.beq i 146 then some (13, 10) else none)) else (bif Nat.ble 145 i then (bif Nat.beq i 145 then some (13, 10) else none) else (bif Nat.beq i 144 then some (13, 10) else none))) else (bif Nat.ble 142 i then (bif Nat.ble 143 i then (bif Nat.beq i 143 then some (13, 10) else none) else (bif Nat.beq i 142 then some (13, 10) else none)) else (bif Nat.ble 141 i then (bif Nat.beq i 141 then some (10, 20) else none) else (bif Nat.beq i 140 then some (13, 6) else none))))) else (bif Nat.ble 132 i then (bif Nat.ble 136 i then (bif Nat.ble 138 i then (bif Nat.ble 139 i then (bif Nat.beq i 139 then some (13, 6) else none) else (bif Nat.beq i 138 then some (13, 8) else none)) else (bif Nat.ble 137 i then (bif Nat.beq i 137 then some (13, 8) else none) else (bif Nat.beq i 136 then some (13, 200) else none))) else (bif Nat.ble 134 i then (bif Nat.ble 135 i then (bif Nat.beq i 135 then some (13, 10) else none) else (bif Nat.beq i 134 then some (13, 10) else none)) else (bif Nat.ble 133 i then (bif Nat.beq i 133 then some (13, 10) else none) else (bif Nat.beq i 132 then some (13, 10) else none)))) else (bif Nat.ble 128 i then (bif Nat.ble 130 i then (bif Nat.ble 131 i then (bif Nat.beq i 131 then some (13, 10) else none) else (bif Nat.beq i 130 then some (13, 10) else none)) else (bif Nat.ble 129 i then (bif Nat.beq i 129 then some (10, 20) else none) else (bif Nat.beq i 128 then some (13, 6) else none))) else (bif Nat.ble 126 i then (bif Nat.ble 127 i then (bif Nat.beq i 127 then some (13, 6) else none) else (bif Nat.beq i 126 then some (13, 8) else none)) else (bif Nat.beq i 125 then some (13, 8) else none))))))) else (bif Nat.ble 62 i then (bif Nat.ble 93 i then (bif Nat.ble 109 i then (bif Nat.ble 117 i then (bif Nat.ble 121 i then (bif Nat.ble 123 i then (bif Nat.ble 124 i then (bif Nat.beq i 124 then some (13, 200) else none) else (bif Nat.beq i 123 then some (13, 10) else none)) else (bif Nat.ble 122 i then (bif Nat.beq i 122 then some (13, 10) else none) else (bif Nat.beq i 121 then some (13, 10) else none))) else (bif Nat.ble 119 i then (bif Nat.ble 120 i then (bif Nat.beq i 120 then some (13, 10) else none) else (bif Nat.beq i 119 then some (13, 10) else none)) else (bif Nat.ble 118 i then (bif Nat.beq i 118 then some (13, 10) else none) else (bif Nat.beq i 117 then some (10, 20) else none)))) else (bif Nat.ble 113 i then (bif Nat.ble 115 i then (bif Nat.ble 116 i then (bif Nat.beq i 116 then some (13, 6) else none) else (bif Nat.beq i 115 then some (13, 6) else none)) else (bif Nat.ble 114 i then (bif Nat.beq i 114 then some (13, 8) else none) else (bif Nat.beq i 113 then some (13, 8) else none))) else (bif Nat.ble 111 i then (bif Nat.ble 112 i then (bif Nat.beq i 112 then some (13, 200) else none) else (bif Nat.beq i 111 then some (13, 10) else none)) else (bif Nat.ble 110 i then (bif Nat.beq i 110 then some (13, 10) else none) else (bif Nat.beq i 109 then some (13, 10) else none))))) else (bif Nat.ble 101 i then (bif Nat.ble 105 i then (bif Nat.ble 107 i then (bif Nat.ble 108 i then (bif Nat.beq i 108 then some (13, 10) else none) else (bif Nat.beq i 107 then some (13, 10) else none)) else (bif Nat.ble 106 i then (bif Nat.beq i 106 then some (13, 10) else none) else (bif Nat.beq i 105 then some (10, 20) else none))) else (bif Nat.ble 103 i then (bif Nat.ble 104 i then (bif Nat.beq i 104 then some (13, 6) else none) else (bif Nat.beq i 103 then some (13, 6) else none)) else (bif Nat.ble 102 i then (bif Nat.beq i 102 then some (13, 8) else none) else (bif Nat.beq i 101 then some (13, 8) else none)))) else (bif Nat.ble 97 i then (bif Nat.ble 99 i then (bif Nat.ble 100 i then (bif Nat.beq i 100 then some (13, 200) else none) else (bif Nat.beq i 99 then some (13, 10) else none)) else (bif Nat.ble 98 i then (bif Nat.beq i 98 then some (13, 10) else none) else (bif Nat.beq i 97 then some (13, 10) else none))) else (bif Nat.ble 95 i then (bif Nat.ble 96 i then (bif Nat.beq i 96 then some (13, 10) else none) else (bif Nat.beq i 95 then some (13, 10) else none)) else (bif Nat.ble 94 i then (bif Nat.beq i 94 then some (13, 10) else none) else (bif Nat.beq i 93 then some (10, 20) else none)))))) else (bif Nat.ble 77 i then (bif Nat.ble 85 i then (bif Nat.ble 89 i then (bif Nat.ble 91 i then (bif Nat.ble 92 i then (bif Nat.beq i 92 then some (14, 6) else none) else (bif Nat.beq i 91 then some (5, 3) else none)) else (bif Nat.ble 90 i then (bif Nat.beq i 90 then some (13, 12) else none) else (bif Nat.beq i 89 then some (13, 40) else none))) else (bif Nat.ble 87 i then (bif Nat.ble 88 i then (bif Nat.beq i 88 then some (13, 16) else none) else (bif Nat.beq i 87 then some (13, 16) else none)) else (bif Nat.ble 86 i then (bif Nat.beq i 86 then some (13, 16) else none) else (bif Nat.beq i 85 then some (13, 14) else none)))) else (bif Nat.ble 81 i then (bif Nat.ble 83 i then (bif Nat.ble 84 i then (bif Nat.beq i 84 then some (13, 14) else none) else (bif Nat.beq i 83 then some (13, 12) else none)) else (bif Nat.ble 82 i then (bif Nat.beq i 82 then some (13, 12) else none) else (bif Nat.beq i 81 then some (9, 13) else none))) else (bif Nat.ble 79 i then (bif Nat.ble 80 i then (bif Nat.beq i 80 then some (13, 16) else none) else (bif Nat.beq i 79 then some (13, 16) else none)) else (bif Nat.ble 78 i then (bif Nat.beq i 78 then some (13, 16) else none) else (bif Nat.beq i 77 then some (13, 16) else none))))) else (bif Nat.ble 69 i then (bif Nat.ble 73 i then (bif Nat.ble 75 i then (bif Nat.ble 76 i then (bif Nat.beq i 76 then some (13, 16) else none) else (bif Nat.beq i 75 then some (13, 16) else none)) else (bif Nat.ble 74 i then (bif Nat.beq i 74 then some (13, 10) else none) else (bif Nat.beq i 73 then some (13, 9) else none))) else (bif Nat.ble 71 i then (bif Nat.ble 72 i then (bif Nat.beq i 72 then some (13, 40) else none) else (bif Nat.beq i 71 then some (13, 16) else none)) else (bif Nat.ble 70 i then (bif Nat.beq i 70 then some (13, 16) else none) else (bif Nat.beq i 69 then some (13, 16) else none)))) else (bif Nat.ble 65 i then (bif Nat.ble 67 i then (bif Nat.ble 68 i then (bif Nat.beq i 68 then some (13, 16) else none) else (bif Nat.beq i 67 then some (13, 400) else none)) else (bif Nat.ble 66 i then (bif Nat.beq i 66 then some (13, 400) else none) else (bif Nat.beq i 65 then some (3, 10) else none))) else (bif Nat.ble 63 i then (bif Nat.ble 64 i then (bif Nat.beq i 64 then some (6, 11) else none) else (bif Nat.beq i 63 then some (13, 150) else none)) else (bif Nat.beq i 62 then some (13, 150) else none)))))) else (bif Nat.ble 31 i then (bif Nat.ble 46 i then (bif Nat.ble 54 i then (bif Nat.ble 58 i then (bif Nat.ble 60 i then (bif Nat.ble 61 i then (bif Nat.beq i 61 then some (13, 150) else none) else (bif Nat.beq i 60 then some (13, 150) else none)) else (bif Nat.ble 59 i then (bif Nat.beq i 59 then some (0, 4) else none) else (bif Nat.beq i 58 then some (13, 6) else none))) else (bif Nat.ble 56 i then (bif Nat.ble 57 i then (bif Nat.beq i 57 then some (13, 6) else none) else (bif Nat.beq i 56 then some (13, 8) else none)) else (bif Nat.ble 55 i then (bif Nat.beq i 55 then some (13, 8) else none) else (bif Nat.beq i 54 then some (13, 200) else none)))) else (bif Nat.ble 50 i then (bif Nat.ble 52 i then (bif Nat.ble 53 i then (bif Nat.beq i 53 then some (13, 10) else none) else (bif Nat.beq i 52 then some (13, 10) else none)) else (bif Nat.ble 51 i then (bif Nat.beq i 51 then some (13, 10) else none) else (bif Nat.beq i 50 then some (13, 10) else none))) else (bif Nat.ble 48 i then (bif Nat.ble 49 i then (bif Nat.beq i 49 then some (13, 10) else none) else (bif Nat.beq i 48 then some (13, 10) else none)) else (bif Nat.ble 47 i then (bif Nat.beq i 47 then some (10, 20) else none) else (bif Nat.beq i 46 then some (1, 4) else none))))) else (bif Nat.ble 38 i then (bif Nat.ble 42 i then (bif Nat.ble 44 i then (bif Nat.ble 45 i then (bif Nat.beq i 45 then some (13, 12) else none) else (bif Nat.beq i 44 then some (13, 40) else none)) else (bif Nat.ble 43 i then (bif Nat.beq i 43 then some (13, 16) else none) else (bif Nat.beq i 42 then some (13, 16) else none))) else (bif Nat.ble 40 i then (bif Nat.ble 41 i then (bif Nat.beq i 41 then some (13, 16) else none) else (bif Nat.beq i 40 then some (13, 14) else none)) else (bif Nat.ble 39 i then (bif Nat.beq i 39 then some (13, 14) else none) else (bif Nat.beq i 38 then some (13, 12) else none)))) else (bif Nat.ble 34 i then (bif Nat.ble 36 i then (bif Nat.ble 37 i then (bif Nat.beq i 37 then some (13, 12) else none) else (bif Nat.beq i 36 then some (9, 13) else none)) else (bif Nat.ble 35 i then (bif Nat.beq i 35 then some (13, 16) else none) else (bif Nat.beq i 34 then some (13, 16) else none))) else (bif Nat.ble 32 i then (bif Nat.ble 33 i then (bif Nat.beq i 33 then some (13, 16) else none) else (bif Nat.beq i 32 then some (13, 16) else none)) else (bif Nat.beq i 31 then some (13, 16) else none))))) else (bif Nat.ble 15 i then (bif Nat.ble 23 i then (bif Nat.ble 27 i then (bif Nat.ble 29 i then (bif Nat.ble 30 i then (bif Nat.beq i 30 then some (13, 16) else none) else (bif Nat.beq i 29 then some (13, 10) else none)) else (bif Nat.ble 28 i then (bif Nat.beq i 28 then some (13, 9) else none) else (bif Nat.beq i 27 then some (13, 40) else none))) else (bif Nat.ble 25 i then (bif Nat.ble 26 i then (bif Nat.beq i 26 then some (13, 16) else none) else (bif Nat.beq i 25 then some (13, 16) else none)) else (bif Nat.ble 24 i then (bif Nat.beq i 24 then some (13, 16) else none) else (bif Nat.beq i 23 then some (13, 16) else none)))) else (bif Nat.ble 19 i then (bif Nat.ble 21 i then (bif Nat.ble 22 i then (bif Nat.beq i 22 then some (13, 400) else none) else (bif Nat.beq i 21 then some (13, 400) else none)) else (bif Nat.ble 20 i then (bif Nat.beq i 20 then some (3, 10) else none) else (bif Nat.beq i 19 then some (6, 11) else none))) else (bif Nat.ble 17 i then (bif Nat.ble 18 i then (bif Nat.beq i 18 then some (13, 150) else none) else (bif Nat.beq i 17 then some (13, 150) else none)) else (bif Nat.ble 16 i then (bif Nat.beq i 16 then some (13, 150) else none) else (bif Nat.beq i 15 then some (13, 150) else none))))) else (bif Nat.ble 7 i then (bif Nat.ble 11 i then (bif Nat.ble 13 i then (bif Nat.ble 14 i then (bif Nat.beq i 14 then some (0, 4) else none) else (bif Nat.beq i 13 then some (13, 6) else none)) else (bif Nat.ble 12 i then (bif Nat.beq i 12 then some (13, 6) else none) else (bif Nat.beq i 11 then some (13, 8) else none))) else (bif Nat.ble 9 i then (bif Nat.ble 10 i then (bif Nat.beq i 10 then some (13, 8) else none) else (bif Nat.beq i 9 then some (13, 200) else none)) else (bif Nat.ble 8 i then (bif Nat.beq i 8 then some (13, 10) else none) else (bif Nat.beq i 7 then some (13, 10) else none)))) else (bif Nat.ble 3 i then (bif Nat.ble 5 i then (bif Nat.ble 6 i then (bif Nat.beq i 6 then some (13, 10) else none) else (bif Nat.beq i 5 then some (13, 10) else none)) else (bif Nat.ble 4 i then (bif Nat.beq i 4 then some (13, 10) else none) else (bif Nat.beq i 3 then some (13, 10) else none))) else (bif Nat.ble 1 i then (bif Nat.ble 2 i then (bif Nat.beq i 2 then some (10, 20) else none) else (bif Nat.beq i 1 then some (1, 4) else none)) else (bif Nat.beq i 0 then some (11, 12) else none))))))))
noncomputable def zs_rf (i k : Nat) : Option Nat := (bif Nat.ble 92 i then (bif Nat.ble 165 i then (bif Nat.ble 195 i then (bif Nat.ble 212 i then (bif Nat.ble 214 i then (bif Nat.beq i 214 then (bif Nat.ble 38 k then (bif Nat.ble 51 k then (bif Nat.ble 55 k then (bif Nat.ble 59 k then (bif Nat.ble 60 k then (bif Nat.ble 64 k then (bif Nat.beq k 64 then some 250 else none) else (bif Nat.beq k 60 then some 249 else none)) else (bif Nat.beq k 59 then some 248 else none)) else (bif Nat.ble 57 k then (bif Nat.beq k 57 then some 247 else none) else (bif Nat.beq k 55 then some 246 else none))) else (bif Nat.ble 53 k then (bif Nat.ble 54 k then (bif Nat.beq k 54 then some 245 else none) else (bif Nat.beq k 53 then some 244 else none)) else (bif Nat.ble 52 k then (bif Nat.beq k 52 then some 243 else none) else (bif Nat.beq k 51 then some 242 else none)))) else (bif Nat.ble 44 k then (bif Nat.ble 47 k then (bif Nat.ble 48 k then (bif Nat.ble 49 k then (bif Nat.beq k 49 then some 241 else none) else (bif Nat.beq k 48 then some 240 else none)) else (bif Nat.beq k 47 then some 239 else none)) else (bif Nat.ble 45 k then (bif Nat.beq k 45 then some 238 else none) else (bif Nat.beq k 44 then some 237 else none))) else (bif Nat.ble 41 k then (bif Nat.ble 42 k then (bif Nat.beq k 42 then some 236 else none) else (bif Nat.beq k 41 then some 235 else none)) else (bif Nat.ble 40 k then (bif Nat.beq k 40 then some 234 else none) else (bif Nat.beq k 38 then some 233 else none))))) else (bif Nat.ble 19 k then (bif Nat.ble 23 k then (bif Nat.ble 25 k then (bif Nat.ble 29 k then (bif Nat.ble 36 k then (bif Nat.beq k 36 then some 232 else none) else (bif Nat.beq k 29 then some 231 else none)) else (bif Nat.beq k 25 then some 230 else none)) else (bif Nat.ble 24 k then (bif Nat.beq k 24 then some 229 else none) else (bif Nat.beq k 23 then some 228 else none))) else (bif Nat.ble 21 k then (bif Nat.ble 22 k then (bif Nat.beq k 22 then some 227 else none) else (bif Nat.beq k 21 then some 226 else none)) else (bif Nat.ble 20 k then (bif Nat.beq k 20 then some 225 else none) else (bif Nat.beq k 19 then some 224 else none)))) else (bif Nat.ble 9 k then (bif Nat.ble 11 k then (bif Nat.ble 12 k then (bif Nat.ble 18 k then (bif Nat.beq k 18 then some 223 else none) else (bif Nat.beq k 12 then some 222 else none)) else (bif Nat.beq k 11 then some 221 else none)) else (bif Nat.ble 10 k then (bif Nat.beq k 10 then some 220 else none) else (bif Nat.beq k 9 then some 219 else none))) else (bif Nat.ble 4 k then (bif Nat.ble 8 k then (bif Nat.beq k 8 then some 218 else none) else (bif Nat.beq k 4 then some 217 else none)) else (bif Nat.ble 2 k then (bif Nat.beq k 2 then some 216 else none) else (bif Nat.beq k 1 then some 215 else none)))))) else none) else (bif Nat.beq i 212 then (bif Nat.beq k 0 then some 213 else none) else none)) else (bif Nat.ble 196 i then (bif Nat.beq i 196 then (bif Nat.ble 5 k then (bif Nat.ble 8 k then (bif Nat.ble 9 k then (bif Nat.beq k 9 then some 204 else none) else (bif Nat.beq k 8 then some 203 else none)) else (bif Nat.ble 6 k then (bif Nat.beq k 6 then some 202 else none) else (bif Nat.beq k 5 then some 201 else none))) else (bif Nat.ble 3 k then (bif Nat.ble 4 k then (bif Nat.beq k 4 then some 200 else none) else (bif Nat.beq k 3 then some 199 else none)) else (bif Nat.ble 1 k then (bif Nat.beq k 1 then some 198 else none) else (bif Nat.beq k 0 then some 197 else none)))) else none) else (bif Nat.beq i 195 then (bif Nat.ble 6 k then (bif Nat.ble 8 k then (bif Nat.ble 9 k then (bif Nat.beq k 9 then some 211 else none) else (bif Nat.beq k 8 then some 210 else none)) else (bif Nat.ble 7 k then (bif Nat.beq k 7 then some 209 else none) else (bif Nat.beq k 6 then some 208 else none))) else (bif Nat.ble 3 k then (bif Nat.ble 4 k then (bif Nat.beq k 4 then some 207 else none) else (bif Nat.beq k 3 then some 206 else none)) else (bif Nat.ble 1 k then (bif Nat.beq k 1 then some 205 else none) else (bif Nat.beq k 0 then some 196 else none)))) else none))) else (bif Nat.ble 180 i then (bif Nat.ble 191 i then (bif Nat.beq i 191 then (bif Nat.ble 1 k then (bif Nat.ble 2 k then (bif Nat.beq k 2 then some 194 else none) else (bif Nat.beq k 1 then some 193 else none)) else (bif Nat.beq k 0 then some 192 else none)) else none) else (bif Nat.beq i 180 then (bif Nat.ble 7 k then (bif Nat.ble 9 k then (bif Nat.ble 10 k then (bif Nat.ble 12 k then (bif Nat.beq k 12 then some 189 else none) else (bif Nat.beq k 10 then some 188 else none)) else (bif Nat.beq k 9 then some 187 else none)) else (bif Nat.ble 8 k then (bif Nat.beq k 8 then some 186 else none) else (bif Nat.beq k 7 then some 185 else none))) else (bif Nat.ble 2 k then (bif Nat.ble 4 k then (bif Nat.beq k 4 then some 184 else none) else (bif Nat.beq k 2 then some 183 else none)) else (bif Nat.ble 1 k then (bif Nat.beq k 1 then some 182 else none) else (bif Nat.beq k 0 then some 181 else none)))) else none)) else (bif Nat.ble 177 i then (bif Nat.beq i 177 then (bif Nat.ble 1 k then (bif Nat.beq k 1 then some 179 else none) else (bif Nat.beq k 0 then some 178 else none)) else none) else (bif Nat.beq i 165 then (bif Nat.ble 6 k then (bif Nat.ble 10 k then (bif Nat.ble 12 k then (bif Nat.ble 13 k then (bif Nat.beq k 13 then some 176 else none) else (bif Nat.beq k 12 then some 175 else none)) else (bif Nat.beq k 10 then some 174 else none)) else (bif Nat.ble 7 k then (bif Nat.ble 9 k then (bif Nat.beq k 9 then some 173 else none) else (bif Nat.beq k 7 then some 172 else none)) else (bif Nat.beq k 6 then some 171 else none))) else (bif Nat.ble 3 k then (bif Nat.ble 4 k then (bif Nat.ble 5 k then (bif Nat.beq k 5 then some 170 else none) else (bif Nat.beq k 4 then some 169 else none)) else (bif Nat.beq k 3 then some 168 else none)) else (bif Nat.ble 2 k then (bif Nat.beq k 2 then some 167 else none) else (bif Nat.beq k 1 then some 166 else none)))) else none)))) else (bif Nat.ble 117 i then (bif Nat.ble 141 i then (bif Nat.ble 153 i then (bif Nat.beq i 153 then (bif Nat.ble 6 k then (bif Nat.ble 10 k then (bif Nat.ble 12 k then (bif Nat.ble 13 k then (bif Nat.beq k 13 then some 164 else none) else (bif Nat.beq k 12 then some 163 else none)) else (bif Nat.beq k 10 then some 162 else none)) else (bif Nat.ble 7 k then (bif Nat.ble 9 k then (bif Nat.beq k 9 then some 161 else none) else (bif Nat.beq k 7 then some 160 else none)) else (bif Nat.beq k 6 then some 159 else none))) else (bif Nat.ble 3 k then (bif Nat.ble 4 k then (bif Nat.ble 5 k then (bif Nat.beq k 5 then some 158 else none) else (bif Nat.beq k 4 then some 157 else none)) else (bif Nat.beq k 3 then some 156 else none)) else (bif Nat.ble 2 k then (bif Nat.beq k 2 then some 155 else none) else (bif Nat.beq k 1 then some 154 else none)))) else none) else (bif Nat.beq i 141 then (bif Nat.ble 6 k then (bif Nat.ble 10 k then (bif Nat.ble 12 k then (bif Nat.ble 13 k then (bif Nat.beq k 13 then some 152 else none) else (bif Nat.beq k 12 then some 151 else none)) else (bif Nat.beq k 10 then some 150 else none)) else (bif Nat.ble 7 k then (bif Nat.ble 9 k then (bif Nat.beq k 9 then some 149 else none) else (bif Nat.beq k 7 then some 148 else none)) else (bif Nat.beq k 6 then some 147 else none))) else (bif Nat.ble 3 k then (bif Nat.ble 4 k then (bif Nat.ble 5 k then (bif Nat.beq k 5 then some 146 else none) else (bif Nat.beq k 4 then some 145 else none)) else (bif Nat.beq k 3 then some 144 else none)) else (bif Nat.ble 2 k then (bif Nat.beq k 2 then some 143 else none) else (bif Nat.beq k 1 then some 142 else none)))) else none)) else (bif Nat.ble 129 i then (bif Nat.beq i 129 then (bif Nat.ble 6 k then (bif Nat.ble 10 k then (bif Nat.ble 12 k then (bif Nat.ble 13 k then (bif Nat.beq k 13 then some 140 else none) else (bif Nat.beq k 12 then some 139 else none)) else (bif Nat.beq k 10 then some 138 else none)) else (bif Nat.ble 7 k then (bif Nat.ble 9 k then (bif Nat.beq k 9 then some 137 else none) else (bif Nat.beq k 7 then some 136 else none)) else (bif Nat.beq k 6 then some 135 else none))) else (bif Nat.ble 3 k then (bif Nat.ble 4 k then (bif Nat.ble 5 k then (bif Nat.beq k 5 then some 134 else none) else (bif Nat.beq k 4 then some 133 else none)) else (bif Nat.beq k 3 then some 132 else none)) else (bif Nat.ble 2 k then (bif Nat.beq k 2 then some 131 else none) else (bif Nat.beq k 1 then some 130 else none)))) else none) else (bif Nat.beq i 117 then (bif Nat.ble 6 k then (bif Nat.ble 10 k then (bif Nat.ble 12 k then (bif Nat.ble 13 k then (bif Nat.beq k 13 then some 128 else none) else (bif Nat.beq k 12 then some 127 else none)) else (bif Nat.beq k 10 then some 126 else none)) else (bif Nat.ble 7 k then (bif Nat.ble 9 k then (bif Nat.beq k 9 then some 125 else none) else (bif Nat.beq k 7 then some 124 else none)) else (bif Nat.beq k 6 then some 123 else none))) else (bif Nat.ble 3 k then (bif Nat.ble 4 k then (bif Nat.ble 5 k then (bif Nat.beq k 5 then some 122 else none) else (bif Nat.beq k 4 then some 121 else none)) else (bif Nat.beq k 3 then some 120 else none)) else (bif Nat.ble 2 k then (bif Nat.beq k 2 then some 119 else none) else (bif Nat.beq k 1 then some 118 else none)))) else none))) else (bif Nat.ble 93 i then (bif Nat.ble 105 i then (bif Nat.beq i 105 then (bif Nat.ble 6 k then (bif Nat.ble 10 k then (bif Nat.ble 12 k then (bif Nat.ble 13 k then (bif Nat.beq k 13 then some 116 else none) else (bif Nat.beq k 12 then some 115 else none)) else (bif Nat.beq k 10 then some 114 else none)) else (bif Nat.ble 7 k then (bif Nat.ble 9 k then (bif Nat.beq k 9 then some 113 else none) else (bif Nat.beq k 7 then some 112 else none)) else (bif Nat.beq k 6 then some 111 else none))) else (bif Nat.ble 3 k then (bif Nat.ble 4 k then (bif Nat.ble 5 k then (bif Nat.beq k 5 then some 110 else none) else (bif Nat.beq k 4 then some 109 else none)) else (bif Nat.beq k 3 then some 108 else none)) else (bif Nat.ble 2 k then (bif Nat.beq k 2 then some 107 else none) else (bif Nat.beq k 1 then some 106 else none)))) else none) else (bif Nat.beq i 93 then (bif Nat.ble 6 k then (bif Nat.ble 10 k then (bif Nat.ble 12 k then (bif Nat.ble 13 k then (bif Nat.beq k 13 then some 104 else none) else (bif Nat.beq k 12 then some 103 else none)) else (bif Nat.beq k 10 then some 102 else none)) else (bif Nat.ble 7 k then (bif Nat.ble 9 k then (bif Nat.beq k 9 then some 101 else none) else (bif Nat.beq k 7 then some 100 else none)) else (bif Nat.beq k 6 then some 99 else none))) else (bif Nat.ble 3 k then (bif Nat.ble 4 k then (bif Nat.ble 5 k then (bif Nat.beq k 5 then some 98 else none) else (bif Nat.beq k 4 then some 97 else none)) else (bif Nat.beq k 3 then some 96 else none)) else (bif Nat.ble 2 k then (bif Nat.beq k 2 then some 95 else none) else (bif Nat.beq k 1 then some 94 else none)))) else none)) else (bif Nat.beq i 92 then (bif Nat.ble 3 k then (bif Nat.ble 4 k then (bif Nat.ble 5 k then (bif Nat.beq k 5 then some 153 else none) else (bif Nat.beq k 4 then some 141 else none)) else (bif Nat.beq k 3 then some 129 else none)) else (bif Nat.ble 1 k then (bif Nat.ble 2 k then (bif Nat.beq k 2 then some 117 else none) else (bif Nat.beq k 1 then some 105 else none)) else (bif Nat.beq k 0 then some 93 else none))) else none)))) else (bif Nat.ble 46 i then (bif Nat.ble 64 i then (bif Nat.ble 81 i then (bif Nat.ble 91 i then (bif Nat.beq i 91 then (bif Nat.beq k 0 then some 92 else none) else none) else (bif Nat.beq i 81 then (bif Nat.ble 6 k then (bif Nat.ble 8 k then (bif Nat.ble 9 k then (bif Nat.ble 11 k then (bif Nat.beq k 11 then some 90 else none) else (bif Nat.beq k 9 then some 89 else none)) else (bif Nat.beq k 8 then some 88 else none)) else (bif Nat.ble 7 k then (bif Nat.beq k 7 then some 87 else none) else (bif Nat.beq k 6 then some 86 else none))) else (bif Nat.ble 3 k then (bif Nat.ble 4 k then (bif Nat.beq k 4 then some 85 else none) else (bif Nat.beq k 3 then some 84 else none)) else (bif Nat.ble 1 k then (bif Nat.beq k 1 then some 83 else none) else (bif Nat.beq k 0 then some 82 else none)))) else none)) else (bif Nat.ble 65 i then (bif Nat.beq i 65 then (bif Nat.ble 5 k then (bif Nat.ble 8 k then (bif Nat.ble 9 k then (bif Nat.beq k 9 then some 73 else none) else (bif Nat.beq k 8 then some 72 else none)) else (bif Nat.ble 6 k then (bif Nat.beq k 6 then some 71 else none) else (bif Nat.beq k 5 then some 70 else none))) else (bif Nat.ble 3 k then (bif Nat.ble 4 k then (bif Nat.beq k 4 then some 69 else none) else (bif Nat.beq k 3 then some 68 else none)) else (bif Nat.ble 1 k then (bif Nat.beq k 1 then some 67 else none) else (bif Nat.beq k 0 then some 66 else none)))) else none) else (bif Nat.beq i 64 then (bif Nat.ble 6 k then (bif Nat.ble 8 k then (bif Nat.ble 9 k then (bif Nat.beq k 9 then some 80 else none) else (bif Nat.beq k 8 then some 79 else none)) else (bif Nat.ble 7 k then (bif Nat.beq k 7 then some 78 else none) else (bif Nat.beq k 6 then some 77 else none))) else (bif Nat.ble 3 k then (bif Nat.ble 4 k then (bif Nat.beq k 4 then some 76 else none) else (bif Nat.beq k 3 then some 75 else none)) else (bif Nat.ble 1 k then (bif Nat.beq k 1 then some 74 else none) else (bif Nat.beq k 0 then some 65 else none)))) else none))) else (bif Nat.ble 47 i then (bif Nat.ble 59 i then (bif Nat.beq i 59 then (bif Nat.ble 2 k then (bif Nat.ble 3 k then (bif Nat.beq k 3 then some 63 else none) else (bif Nat.beq k 2 then some 62 else none)) else (bif Nat.ble 1 k then (bif Nat.beq k 1 then some 61 else none) else (bif Nat.beq k 0 then some 60 else none))) else none) else (bif Nat.beq i 47 then (bif Nat.ble 6 k then (bif Nat.ble 10 k then (bif Nat.ble 12 k then (bif Nat.ble 13 k then (bif Nat.beq k 13 then some 58 else none) else (bif Nat.beq k 12 then some 57 else none)) else (bif Nat.beq k 10 then some 56 else none)) else (bif Nat.ble 7 k then (bif Nat.ble 9 k then (bif Nat.beq k 9 then some 55 else none) else (bif Nat.beq k 7 then some 54 else none)) else (bif Nat.beq k 6 then some 53 else none))) else (bif Nat.ble 3 k then (bif Nat.ble 4 k then (bif Nat.ble 5 k then (bif Nat.beq k 5 then some 52 else none) else (bif Nat.beq k 4 then some 51 else none)) else (bif Nat.beq k 3 then some 50 else none)) else (bif Nat.ble 2 k then (bif Nat.beq k 2 then some 49 else none) else (bif Nat.beq k 1 then some 48 else none)))) else none)) else (bif Nat.beq i 46 then (bif Nat.ble 2 k then (bif Nat.ble 3 k then (bif Nat.beq k 3 then some 81 else none) else (bif Nat.beq k 2 then some 64 else none)) else (bif Nat.ble 1 k then (bif Nat.beq k 1 then some 59 else none) else (bif Nat.beq k 0 then some 47 else none))) else none))) else (bif Nat.ble 14 i then (bif Nat.ble 20 i then (bif Nat.ble 36 i then (bif Nat.beq i 36 then (bif Nat.ble 6 k then (bif Nat.ble 8 k then (bif Nat.ble 9 k then (bif Nat.ble 11 k then (bif Nat.beq k 11 then some 45 else none) else (bif Nat.beq k 9 then some 44 else none)) else (bif Nat.beq k 8 then some 43 else none)) else (bif Nat.ble 7 k then (bif Nat.beq k 7 then some 42 else none) else (bif Nat.beq k 6 then some 41 else none))) else (bif Nat.ble 3 k then (bif Nat.ble 4 k then (bif Nat.beq k 4 then some 40 else none) else (bif Nat.beq k 3 then some 39 else none)) else (bif Nat.ble 1 k then (bif Nat.beq k 1 then some 38 else none) else (bif Nat.beq k 0 then some 37 else none)))) else none) else (bif Nat.beq i 20 then (bif Nat.ble 5 k then (bif Nat.ble 8 k then (bif Nat.ble 9 k then (bif Nat.beq k 9 then some 28 else none) else (bif Nat.beq k 8 then some 27 else none)) else (bif Nat.ble 6 k then (bif Nat.beq k 6 then some 26 else none) else (bif Nat.beq k 5 then some 25 else none))) else (bif Nat.ble 3 k then (bif Nat.ble 4 k then (bif Nat.beq k 4 then some 24 else none) else (bif Nat.beq k 3 then some 23 else none)) else (bif Nat.ble 1 k then (bif Nat.beq k 1 then some 22 else none) else (bif Nat.beq k 0 then some 21 else none)))) else none)) else (bif Nat.ble 19 i then (bif Nat.beq i 19 then (bif Nat.ble 6 k then (bif Nat.ble 8 k then (bif Nat.ble 9 k then (bif Nat.beq k 9 then some 35 else none) else (bif Nat.beq k 8 then some 34 else none)) else (bif Nat.ble 7 k then (bif Nat.beq k 7 then some 33 else none) else (bif Nat.beq k 6 then some 32 else none))) else (bif Nat.ble 3 k then (bif Nat.ble 4 k then (bif Nat.beq k 4 then some 31 else none) else (bif Nat.beq k 3 then some 30 else none)) else (bif Nat.ble 1 k then (bif Nat.beq k 1 then some 29 else none) else (bif Nat.beq k 0 then some 20 else none)))) else none) else (bif Nat.beq i 14 then (bif Nat.ble 2 k then (bif Nat.ble 3 k then (bif Nat.beq k 3 then some 18 else none) else (bif Nat.beq k 2 then some 17 else none)) else (bif Nat.ble 1 k then (bif Nat.beq k 1 then some 16 else none) else (bif Nat.beq k 0 then some 15 else none))) else none))) else (bif Nat.ble 1 i then (bif Nat.ble 2 i then (bif Nat.beq i 2 then (bif Nat.ble 6 k then (bif Nat.ble 10 k then (bif Nat.ble 12 k then (bif Nat.ble 13 k then (bif Nat.beq k 13 then some 13 else none) else (bif Nat.beq k 12 then some 12 else none)) else (bif Nat.beq k 10 then some 11 else none)) else (bif Nat.ble 7 k then (bif Nat.ble 9 k then (bif Nat.beq k 9 then some 10 else none) else (bif Nat.beq k 7 then some 9 else none)) else (bif Nat.beq k 6 then some 8 else none))) else (bif Nat.ble 3 k then (bif Nat.ble 4 k then (bif Nat.ble 5 k then (bif Nat.beq k 5 then some 7 else none) else (bif Nat.beq k 4 then some 6 else none)) else (bif Nat.beq k 3 then some 5 else none)) else (bif Nat.ble 2 k then (bif Nat.beq k 2 then some 4 else none) else (bif Nat.beq k 1 then some 3 else none)))) else none) else (bif Nat.beq i 1 then (bif Nat.ble 2 k then (bif Nat.ble 3 k then (bif Nat.beq k 3 then some 36 else none) else (bif Nat.beq k 2 then some 19 else none)) else (bif Nat.ble 1 k then (bif Nat.beq k 1 then some 14 else none) else (bif Nat.beq k 0 then some 2 else none))) else none)) else (bif Nat.beq i 0 then (bif Nat.ble 6 k then (bif Nat.ble 9 k then (bif Nat.ble 10 k then (bif Nat.ble 11 k then (bif Nat.beq k 11 then some 212 else none) else (bif Nat.beq k 10 then some 195 else none)) else (bif Nat.beq k 9 then some 191 else none)) else (bif Nat.ble 7 k then (bif Nat.beq k 7 then some 190 else none) else (bif Nat.beq k 6 then some 180 else none))) else (bif Nat.ble 3 k then (bif Nat.ble 4 k then (bif Nat.ble 5 k then (bif Nat.beq k 5 then some 177 else none) else (bif Nat.beq k 4 then some 165 else none)) else (bif Nat.beq k 3 then some 91 else none)) else (bif Nat.ble 1 k then (bif Nat.beq k 1 then some 46 else none) else (bif Nat.beq k 0 then some 1 else none)))) else none)))))
theorem zs_len : ∀ i, i < 251 → (match zs_sh i with | some kd => Nat.ble kd.2 2300 | none => true) = true := by decide +kernel
theorem zs_lt {i : Nat} {kd : Nat × Nat} (h : zs_sh i = some kd) : i < 251 ∧ kd.2 ≤ 2300 := by
  have hl : i < 251 := by
    rcases Nat.lt_or_ge i 251 with h1 | h1
    · exact h1
    · have : Nat.ble 251 i = true := Nat.ble_eq_true_of_le h1
      unfold zs_sh at h
      rw [this] at h
      cases h
  have h2 := zs_len i hl
  rw [h] at h2
  exact ⟨hl, Nat.le_of_ble_eq_true h2⟩
theorem zs_f0_0 {r : Nat} (h : zs_sh r = some (0, 4)) : zs_rf r 0 = some (r + 1) ∧ zs_sh (r + 1) = some (13, 150) := by
  have hd : ∀ r, r < 251 → zs_sh r = some (0, 4) → zs_rf r 0 = some (r + 1) ∧ zs_sh (r + 1) = some (13, 150) := by decide +kernel
  exact hd r (zs_lt h).1 h
theorem zs_f0_1 {r : Nat} (h : zs_sh r = some (0, 4)) : zs_rf r 1 = some (r + 2) ∧ zs_sh (r + 2) = some (13, 150) := by
  have hd : ∀ r, r < 251 → zs_sh r = some (0, 4) → zs_rf r 1 = some (r + 2) ∧ zs_sh (r + 2) = some (13, 150) := by decide +kernel
  exact hd r (zs_lt h).1 h
theorem zs_f0_2 {r : Nat} (h : zs_sh r = some (0, 4)) : zs_rf r 2 = some (r + 3) ∧ zs_sh (r + 3) = some (13, 150) := by
  have hd : ∀ r, r < 251 → zs_sh r = some (0, 4) → zs_rf r 2 = some (r + 3) ∧ zs_sh (r + 3) = some (13, 150) := by decide +kernel
  exact hd r (zs_lt h).1 h
theorem zs_f0_3 {r : Nat} (h : zs_sh r = some (0, 4)) : zs_rf r 3 = some (r + 4) ∧ zs_sh (r + 4) = some (13, 150) := by
  have hd : ∀ r, r < 251 → zs_sh r = some (0, 4) → zs_rf r 3 = some (r + 4) ∧ zs_sh (r + 4) = some (13, 150) := by decide +kernel
  exact hd r (zs_lt h).1 h
theorem zs_f1_0 {r : Nat} (h : zs_sh r = some (1, 4)) : zs_rf r 0 = some (r + 1) ∧ zs_sh (r + 1) = some (10, 20) := by
  have hd : ∀ r, r < 251 → zs_sh r = some (1, 4) → zs_rf r 0 = some (r + 1) ∧ zs_sh (r + 1) = some (10, 20) := by decide +kernel
  exact hd r (zs_lt h).1 h
theorem zs_f1_1 {r : Nat} (h : zs_sh r = some (1, 4)) : zs_rf r 1 = some (r + 13) ∧ zs_sh (r + 13) = some (0, 4) := by
  have hd : ∀ r, r < 251 → zs_sh r = some (1, 4) → zs_rf r 1 = some (r + 13) ∧ zs_sh (r + 13) = some (0, 4) := by decide +kernel
  exact hd r (zs_lt h).1 h
theorem zs_f1_2 {r : Nat} (h : zs_sh r = some (1, 4)) : zs_rf r 2 = some (r + 18) ∧ zs_sh (r + 18) = some (6, 11) := by
  have hd : ∀ r, r < 251 → zs_sh r = some (1, 4) → zs_rf r 2 = some (r + 18) ∧ zs_sh (r + 18) = some (6, 11) := by decide +kernel
  exact hd r (zs_lt h).1 h
theorem zs_f1_3 {r : Nat} (h : zs_sh r = some (1, 4)) : zs_rf r 3 = some (r + 35) ∧ zs_sh (r + 35) = some (9, 13) := by
  have hd : ∀ r, r < 251 → zs_sh r = some (1, 4) → zs_rf r 3 = some (r + 35) ∧ zs_sh (r + 35) = some (9, 13) := by decide +kernel
  exact hd r (zs_lt h).1 h
theorem zs_f2_0 {r : Nat} (h : zs_sh r = some (2, 3)) : zs_rf r 0 = some (r + 1) ∧ zs_sh (r + 1) = some (13, 90) := by
  have hd : ∀ r, r < 251 → zs_sh r = some (2, 3) → zs_rf r 0 = some (r + 1) ∧ zs_sh (r + 1) = some (13, 90) := by decide +kernel
  exact hd r (zs_lt h).1 h
theorem zs_f2_1 {r : Nat} (h : zs_sh r = some (2, 3)) : zs_rf r 1 = some (r + 2) ∧ zs_sh (r + 2) = some (13, 90) := by
  have hd : ∀ r, r < 251 → zs_sh r = some (2, 3) → zs_rf r 1 = some (r + 2) ∧ zs_sh (r + 2) = some (13, 90) := by decide +kernel
  exact hd r (zs_lt h).1 h
theorem zs_f3_0 {r : Nat} (h : zs_sh r = some (3, 10)) : zs_rf r 0 = some (r + 1) ∧ zs_sh (r + 1) = some (13, 400) := by
  have hd : ∀ r, r < 251 → zs_sh r = some (3, 10) → zs_rf r 0 = some (r + 1) ∧ zs_sh (r + 1) = some (13, 400) := by decide +kernel
  exact hd r (zs_lt h).1 h
theorem zs_f3_1 {r : Nat} (h : zs_sh r = some (3, 10)) : zs_rf r 1 = some (r + 2) ∧ zs_sh (r + 2) = some (13, 400) := by
  have hd : ∀ r, r < 251 → zs_sh r = some (3, 10) → zs_rf r 1 = some (r + 2) ∧ zs_sh (r + 2) = some (13, 400) := by decide +kernel
  exact hd r (zs_lt h).1 h
theorem zs_f3_3 {r : Nat} (h : zs_sh r = some (3, 10)) : zs_rf r 3 = some (r + 3) ∧ zs_sh (r + 3) = some (13, 16) := by
  have hd : ∀ r, r < 251 → zs_sh r = some (3, 10) → zs_rf r 3 = some (r + 3) ∧ zs_sh (r + 3) = some (13, 16) := by decide +kernel
  exact hd r (zs_lt h).1 h
theorem zs_f3_4 {r : Nat} (h : zs_sh r = some (3, 10)) : zs_rf r 4 = some (r + 4) ∧ zs_sh (r + 4) = some (13, 16) := by
  have hd : ∀ r, r < 251 → zs_sh r = some (3, 10) → zs_rf r 4 = some (r + 4) ∧ zs_sh (r + 4) = some (13, 16) := by decide +kernel
  exact hd r (zs_lt h).1 h
theorem zs_f3_5 {r : Nat} (h : zs_sh r = some (3, 10)) : zs_rf r 5 = some (r + 5) ∧ zs_sh (r + 5) = some (13, 16) := by
  have hd : ∀ r, r < 251 → zs_sh r = some (3, 10) → zs_rf r 5 = some (r + 5) ∧ zs_sh (r + 5) = some (13, 16) := by decide +kernel
  exact hd r (zs_lt h).1 h
theorem zs_f3_6 {r : Nat} (h : zs_sh r = some (3, 10)) : zs_rf r 6 = some (r + 6) ∧ zs_sh (r + 6) = some (13, 16) := by
  have hd : ∀ r, r < 251 → zs_sh r = some (3, 10) → zs_rf r 6 = some (r + 6) ∧ zs_sh (r + 6) = some (13, 16) := by decide +kernel
  exact hd r (zs_lt h).1 h
theorem zs_f3_8 {r : Nat} (h : zs_sh r = some (3, 10)) : zs_rf r 8 = some (r + 7) ∧ zs_sh (r + 7) = some (13, 40) := by
  have hd : ∀ r, r < 251 → zs_sh r = some (3, 10) → zs_rf r 8 = some (r + 7) ∧ zs_sh (r + 7) = some (13, 40) := by decide +kernel
  exact hd r (zs_lt h).1 h
theorem zs_f3_9 {r : Nat} (h : zs_sh r = some (3, 10)) : zs_rf r 9 = some (r + 8) ∧ zs_sh (r + 8) = some (13, 9) := by
  have hd : ∀ r, r < 251 → zs_sh r = some (3, 10) → zs_rf r 9 = some (r + 8) ∧ zs_sh (r + 8) = some (13, 9) := by decide +kernel
  exact hd r (zs_lt h).1 h
theorem zs_f4_0 {r : Nat} (h : zs_sh r = some (4, 4)) : zs_rf r 0 = some (r + 1) ∧ zs_sh (r + 1) = some (13, 40) := by
  have hd : ∀ r, r < 251 → zs_sh r = some (4, 4) → zs_rf r 0 = some (r + 1) ∧ zs_sh (r + 1) = some (13, 40) := by decide +kernel
  exact hd r (zs_lt h).1 h
theorem zs_f5_0 {r : Nat} (h : zs_sh r = some (5, 3)) : zs_rf r 0 = some (r + 1) ∧ zs_sh (r + 1) = some (14, 6) := by
  have hd : ∀ r, r < 251 → zs_sh r = some (5, 3) → zs_rf r 0 = some (r + 1) ∧ zs_sh (r + 1) = some (14, 6) := by decide +kernel
  exact hd r (zs_lt h).1 h
theorem zs_f6_0 {r : Nat} (h : zs_sh r = some (6, 11)) : zs_rf r 0 = some (r + 1) ∧ zs_sh (r + 1) = some (3, 10) := by
  have hd : ∀ r, r < 251 → zs_sh r = some (6, 11) → zs_rf r 0 = some (r + 1) ∧ zs_sh (r + 1) = some (3, 10) := by decide +kernel
  exact hd r (zs_lt h).1 h
theorem zs_f6_1 {r : Nat} (h : zs_sh r = some (6, 11)) : zs_rf r 1 = some (r + 10) ∧ zs_sh (r + 10) = some (13, 10) := by
  have hd : ∀ r, r < 251 → zs_sh r = some (6, 11) → zs_rf r 1 = some (r + 10) ∧ zs_sh (r + 10) = some (13, 10) := by decide +kernel
  exact hd r (zs_lt h).1 h
theorem zs_f6_3 {r : Nat} (h : zs_sh r = some (6, 11)) : zs_rf r 3 = some (r + 11) ∧ zs_sh (r + 11) = some (13, 16) := by
  have hd : ∀ r, r < 251 → zs_sh r = some (6, 11) → zs_rf r 3 = some (r + 11) ∧ zs_sh (r + 11) = some (13, 16) := by decide +kernel
  exact hd r (zs_lt h).1 h
theorem zs_f6_4 {r : Nat} (h : zs_sh r = some (6, 11)) : zs_rf r 4 = some (r + 12) ∧ zs_sh (r + 12) = some (13, 16) := by
  have hd : ∀ r, r < 251 → zs_sh r = some (6, 11) → zs_rf r 4 = some (r + 12) ∧ zs_sh (r + 12) = some (13, 16) := by decide +kernel
  exact hd r (zs_lt h).1 h
theorem zs_f6_6 {r : Nat} (h : zs_sh r = some (6, 11)) : zs_rf r 6 = some (r + 13) ∧ zs_sh (r + 13) = some (13, 16) := by
  have hd : ∀ r, r < 251 → zs_sh r = some (6, 11) → zs_rf r 6 = some (r + 13) ∧ zs_sh (r + 13) = some (13, 16) := by decide +kernel
  exact hd r (zs_lt h).1 h
theorem zs_f6_7 {r : Nat} (h : zs_sh r = some (6, 11)) : zs_rf r 7 = some (r + 14) ∧ zs_sh (r + 14) = some (13, 16) := by
  have hd : ∀ r, r < 251 → zs_sh r = some (6, 11) → zs_rf r 7 = some (r + 14) ∧ zs_sh (r + 14) = some (13, 16) := by decide +kernel
  exact hd r (zs_lt h).1 h
theorem zs_f6_8 {r : Nat} (h : zs_sh r = some (6, 11)) : zs_rf r 8 = some (r + 15) ∧ zs_sh (r + 15) = some (13, 16) := by
  have hd : ∀ r, r < 251 → zs_sh r = some (6, 11) → zs_rf r 8 = some (r + 15) ∧ zs_sh (r + 15) = some (13, 16) := by decide +kernel
  exact hd r (zs_lt h).1 h
theorem zs_f6_9 {r : Nat} (h : zs_sh r = some (6, 11)) : zs_rf r 9 = some (r + 16) ∧ zs_sh (r + 16) = some (13, 16) := by
  have hd : ∀ r, r < 251 → zs_sh r = some (6, 11) → zs_rf r 9 = some (r + 16) ∧ zs_sh (r + 16) = some (13, 16) := by decide +kernel
  exact hd r (zs_lt h).1 h
theorem zs_f7_0 {r : Nat} (h : zs_sh r = some (7, 13)) : zs_rf r 0 = some (r + 1) ∧ zs_sh (r + 1) = some (13, 8) := by
  have hd : ∀ r, r < 251 → zs_sh r = some (7, 13) → zs_rf r 0 = some (r + 1) ∧ zs_sh (r + 1) = some (13, 8) := by decide +kernel
  exact hd r (zs_lt h).1 h
theorem zs_f7_1 {r : Nat} (h : zs_sh r = some (7, 13)) : zs_rf r 1 = some (r + 2) ∧ zs_sh (r + 2) = some (13, 8) := by
  have hd : ∀ r, r < 251 → zs_sh r = some (7, 13) → zs_rf r 1 = some (r + 2) ∧ zs_sh (r + 2) = some (13, 8) := by decide +kernel
  exact hd r (zs_lt h).1 h
theorem zs_f7_2 {r : Nat} (h : zs_sh r = some (7, 13)) : zs_rf r 2 = some (r + 3) ∧ zs_sh (r + 3) = some (13, 80) := by
  have hd : ∀ r, r < 251 → zs_sh r = some (7, 13) → zs_rf r 2 = some (r + 3) ∧ zs_sh (r + 3) = some (13, 80) := by decide +kernel
  exact hd r (zs_lt h).1 h
theorem zs_f7_4 {r : Nat} (h : zs_sh r = some (7, 13)) : zs_rf r 4 = some (r + 4) ∧ zs_sh (r + 4) = some (13, 10) := by
  have hd : ∀ r, r < 251 → zs_sh r = some (7, 13) → zs_rf r 4 = some (r + 4) ∧ zs_sh (r + 4) = some (13, 10) := by decide +kernel
  exact hd r (zs_lt h).1 h
theorem zs_f7_7 {r : Nat} (h : zs_sh r = some (7, 13)) : zs_rf r 7 = some (r + 5) ∧ zs_sh (r + 5) = some (13, 10) := by
  have hd : ∀ r, r < 251 → zs_sh r = some (7, 13) → zs_rf r 7 = some (r + 5) ∧ zs_sh (r + 5) = some (13, 10) := by decide +kernel
  exact hd r (zs_lt h).1 h
theorem zs_f7_8 {r : Nat} (h : zs_sh r = some (7, 13)) : zs_rf r 8 = some (r + 6) ∧ zs_sh (r + 6) = some (13, 4) := by
  have hd : ∀ r, r < 251 → zs_sh r = some (7, 13) → zs_rf r 8 = some (r + 6) ∧ zs_sh (r + 6) = some (13, 4) := by decide +kernel
  exact hd r (zs_lt h).1 h
theorem zs_f7_9 {r : Nat} (h : zs_sh r = some (7, 13)) : zs_rf r 9 = some (r + 7) ∧ zs_sh (r + 7) = some (13, 4) := by
  have hd : ∀ r, r < 251 → zs_sh r = some (7, 13) → zs_rf r 9 = some (r + 7) ∧ zs_sh (r + 7) = some (13, 4) := by decide +kernel
  exact hd r (zs_lt h).1 h
theorem zs_f7_10 {r : Nat} (h : zs_sh r = some (7, 13)) : zs_rf r 10 = some (r + 8) ∧ zs_sh (r + 8) = some (13, 4) := by
  have hd : ∀ r, r < 251 → zs_sh r = some (7, 13) → zs_rf r 10 = some (r + 8) ∧ zs_sh (r + 8) = some (13, 4) := by decide +kernel
  exact hd r (zs_lt h).1 h
theorem zs_f7_12 {r : Nat} (h : zs_sh r = some (7, 13)) : zs_rf r 12 = some (r + 9) ∧ zs_sh (r + 9) = some (13, 91) := by
  have hd : ∀ r, r < 251 → zs_sh r = some (7, 13) → zs_rf r 12 = some (r + 9) ∧ zs_sh (r + 9) = some (13, 91) := by decide +kernel
  exact hd r (zs_lt h).1 h
theorem zs_f8_0 {r : Nat} (h : zs_sh r = some (8, 7)) : zs_rf r 0 = some (r + 1) ∧ zs_sh (r + 1) = some (13, 401) := by
  have hd : ∀ r, r < 251 → zs_sh r = some (8, 7) → zs_rf r 0 = some (r + 1) ∧ zs_sh (r + 1) = some (13, 401) := by decide +kernel
  exact hd r (zs_lt h).1 h
theorem zs_f8_1 {r : Nat} (h : zs_sh r = some (8, 7)) : zs_rf r 1 = some (r + 2) ∧ zs_sh (r + 2) = some (13, 401) := by
  have hd : ∀ r, r < 251 → zs_sh r = some (8, 7) → zs_rf r 1 = some (r + 2) ∧ zs_sh (r + 2) = some (13, 401) := by decide +kernel
  exact hd r (zs_lt h).1 h
theorem zs_f8_2 {r : Nat} (h : zs_sh r = some (8, 7)) : zs_rf r 2 = some (r + 3) ∧ zs_sh (r + 3) = some (13, 401) := by
  have hd : ∀ r, r < 251 → zs_sh r = some (8, 7) → zs_rf r 2 = some (r + 3) ∧ zs_sh (r + 3) = some (13, 401) := by decide +kernel
  exact hd r (zs_lt h).1 h
theorem zs_f9_0 {r : Nat} (h : zs_sh r = some (9, 13)) : zs_rf r 0 = some (r + 1) ∧ zs_sh (r + 1) = some (13, 12) := by
  have hd : ∀ r, r < 251 → zs_sh r = some (9, 13) → zs_rf r 0 = some (r + 1) ∧ zs_sh (r + 1) = some (13, 12) := by decide +kernel
  exact hd r (zs_lt h).1 h
theorem zs_f9_1 {r : Nat} (h : zs_sh r = some (9, 13)) : zs_rf r 1 = some (r + 2) ∧ zs_sh (r + 2) = some (13, 12) := by
  have hd : ∀ r, r < 251 → zs_sh r = some (9, 13) → zs_rf r 1 = some (r + 2) ∧ zs_sh (r + 2) = some (13, 12) := by decide +kernel
  exact hd r (zs_lt h).1 h
theorem zs_f9_3 {r : Nat} (h : zs_sh r = some (9, 13)) : zs_rf r 3 = some (r + 3) ∧ zs_sh (r + 3) = some (13, 14) := by
  have hd : ∀ r, r < 251 → zs_sh r = some (9, 13) → zs_rf r 3 = some (r + 3) ∧ zs_sh (r + 3) = some (13, 14) := by decide +kernel
  exact hd r (zs_lt h).1 h
theorem zs_f9_4 {r : Nat} (h : zs_sh r = some (9, 13)) : zs_rf r 4 = some (r + 4) ∧ zs_sh (r + 4) = some (13, 14) := by
  have hd : ∀ r, r < 251 → zs_sh r = some (9, 13) → zs_rf r 4 = some (r + 4) ∧ zs_sh (r + 4) = some (13, 14) := by decide +kernel
  exact hd r (zs_lt h).1 h
theorem zs_f9_6 {r : Nat} (h : zs_sh r = some (9, 13)) : zs_rf r 6 = some (r + 5) ∧ zs_sh (r + 5) = some (13, 16) := by
  have hd : ∀ r, r < 251 → zs_sh r = some (9, 13) → zs_rf r 6 = some (r + 5) ∧ zs_sh (r + 5) = some (13, 16) := by decide +kernel
  exact hd r (zs_lt h).1 h
theorem zs_f9_7 {r : Nat} (h : zs_sh r = some (9, 13)) : zs_rf r 7 = some (r + 6) ∧ zs_sh (r + 6) = some (13, 16) := by
  have hd : ∀ r, r < 251 → zs_sh r = some (9, 13) → zs_rf r 7 = some (r + 6) ∧ zs_sh (r + 6) = some (13, 16) := by decide +kernel
  exact hd r (zs_lt h).1 h
theorem zs_f9_8 {r : Nat} (h : zs_sh r = some (9, 13)) : zs_rf r 8 = some (r + 7) ∧ zs_sh (r + 7) = some (13, 16) := by
  have hd : ∀ r, r < 251 → zs_sh r = some (9, 13) → zs_rf r 8 = some (r + 7) ∧ zs_sh (r + 7) = some (13, 16) := by decide +kernel
  exact hd r (zs_lt h).1 h
theorem zs_f9_9 {r : Nat} (h : zs_sh r = some (9, 13)) : zs_rf r 9 = some (r + 8) ∧ zs_sh (r + 8) = some (13, 40) := by
  have hd : ∀ r, r < 251 → zs_sh r = some (9, 13) → zs_rf r 9 = some (r + 8) ∧ zs_sh (r + 8) = some (13, 40) := by decide +kernel
  exact hd r (zs_lt h).1 h
theorem zs_f9_11 {r : Nat} (h : zs_sh r = some (9, 13)) : zs_rf r 11 = some (r + 9) ∧ zs_sh (r + 9) = some (13, 12) := by
  have hd : ∀ r, r < 251 → zs_sh r = some (9, 13) → zs_rf r 11 = some (r + 9) ∧ zs_sh (r + 9) = some (13, 12) := by decide +kernel
  exact hd r (zs_lt h).1 h
theorem zs_f10_1 {r : Nat} (h : zs_sh r = some (10, 20)) : zs_rf r 1 = some (r + 1) ∧ zs_sh (r + 1) = some (13, 10) := by
  have hd : ∀ r, r < 251 → zs_sh r = some (10, 20) → zs_rf r 1 = some (r + 1) ∧ zs_sh (r + 1) = some (13, 10) := by decide +kernel
  exact hd r (zs_lt h).1 h
theorem zs_f10_2 {r : Nat} (h : zs_sh r = some (10, 20)) : zs_rf r 2 = some (r + 2) ∧ zs_sh (r + 2) = some (13, 10) := by
  have hd : ∀ r, r < 251 → zs_sh r = some (10, 20) → zs_rf r 2 = some (r + 2) ∧ zs_sh (r + 2) = some (13, 10) := by decide +kernel
  exact hd r (zs_lt h).1 h
theorem zs_f10_3 {r : Nat} (h : zs_sh r = some (10, 20)) : zs_rf r 3 = some (r + 3) ∧ zs_sh (r + 3) = some (13, 10) := by
  have hd : ∀ r, r < 251 → zs_sh r = some (10, 20) → zs_rf r 3 = some (r + 3) ∧ zs_sh (r + 3) = some (13, 10) := by decide +kernel
  exact hd r (zs_lt h).1 h
theorem zs_f10_4 {r : Nat} (h : zs_sh r = some (10, 20)) : zs_rf r 4 = some (r + 4) ∧ zs_sh (r + 4) = some (13, 10) := by
  have hd : ∀ r, r < 251 → zs_sh r = some (10, 20) → zs_rf r 4 = some (r + 4) ∧ zs_sh (r + 4) = some (13, 10) := by decide +kernel
  exact hd r (zs_lt h).1 h
theorem zs_f10_5 {r : Nat} (h : zs_sh r = some (10, 20)) : zs_rf r 5 = some (r + 5) ∧ zs_sh (r + 5) = some (13, 10) := by
  have hd : ∀ r, r < 251 → zs_sh r = some (10, 20) → zs_rf r 5 = some (r + 5) ∧ zs_sh (r + 5) = some (13, 10) := by decide +kernel
  exact hd r (zs_lt h).1 h
theorem zs_f10_6 {r : Nat} (h : zs_sh r = some (10, 20)) : zs_rf r 6 = some (r + 6) ∧ zs_sh (r + 6) = some (13, 10) := by
  have hd : ∀ r, r < 251 → zs_sh r = some (10, 20) → zs_rf r 6 = some (r + 6) ∧ zs_sh (r + 6) = some (13, 10) := by decide +kernel
  exact hd r (zs_lt h).1 h
theorem zs_f10_7 {r : Nat} (h : zs_sh r = some (10, 20)) : zs_rf r 7 = some (r + 7) ∧ zs_sh (r + 7) = some (13, 200) := by
  have hd : ∀ r, r < 251 → zs_sh r = some (10, 20) → zs_rf r 7 = some (r + 7) ∧ zs_sh (r + 7) = some (13, 200) := by decide +kernel
  exact hd r (zs_lt h).1 h
theorem zs_f10_9 {r : Nat} (h : zs_sh r = some (10, 20)) : zs_rf r 9 = some (r + 8) ∧ zs_sh (r + 8) = some (13, 8) := by
  have hd : ∀ r, r < 251 → zs_sh r = some (10, 20) → zs_rf r 9 = some (r + 8) ∧ zs_sh (r + 8) = some (13, 8) := by decide +kernel
  exact hd r (zs_lt h).1 h
theorem zs_f10_10 {r : Nat} (h : zs_sh r = some (10, 20)) : zs_rf r 10 = some (r + 9) ∧ zs_sh (r + 9) = some (13, 8) := by
  have hd : ∀ r, r < 251 → zs_sh r = some (10, 20) → zs_rf r 10 = some (r + 9) ∧ zs_sh (r + 9) = some (13, 8) := by decide +kernel
  exact hd r (zs_lt h).1 h
theorem zs_f10_12 {r : Nat} (h : zs_sh r = some (10, 20)) : zs_rf r 12 = some (r + 10) ∧ zs_sh (r + 10) = some (13, 6) := by
  have hd : ∀ r, r < 251 → zs_sh r = some (10, 20) → zs_rf r 12 = some (r + 10) ∧ zs_sh (r + 10) = some (13, 6) := by decide +kernel
  exact hd r (zs_lt h).1 h
theorem zs_f10_13 {r : Nat} (h : zs_sh r = some (10, 20)) : zs_rf r 13 = some (r + 11) ∧ zs_sh (r + 11) = some (13, 6) := by
  have hd : ∀ r, r < 251 → zs_sh r = some (10, 20) → zs_rf r 13 = some (r + 11) ∧ zs_sh (r + 11) = some (13, 6) := by decide +kernel
  exact hd r (zs_lt h).1 h
theorem zs_f11_0 {r : Nat} (h : zs_sh r = some (11, 12)) : zs_rf r 0 = some (r + 1) ∧ zs_sh (r + 1) = some (1, 4) := by
  have hd : ∀ r, r < 251 → zs_sh r = some (11, 12) → zs_rf r 0 = some (r + 1) ∧ zs_sh (r + 1) = some (1, 4) := by decide +kernel
  exact hd r (zs_lt h).1 h
theorem zs_f11_1 {r : Nat} (h : zs_sh r = some (11, 12)) : zs_rf r 1 = some (r + 46) ∧ zs_sh (r + 46) = some (1, 4) := by
  have hd : ∀ r, r < 251 → zs_sh r = some (11, 12) → zs_rf r 1 = some (r + 46) ∧ zs_sh (r + 46) = some (1, 4) := by decide +kernel
  exact hd r (zs_lt h).1 h
theorem zs_f11_3 {r : Nat} (h : zs_sh r = some (11, 12)) : zs_rf r 3 = some (r + 91) ∧ zs_sh (r + 91) = some (5, 3) := by
  have hd : ∀ r, r < 251 → zs_sh r = some (11, 12) → zs_rf r 3 = some (r + 91) ∧ zs_sh (r + 91) = some (5, 3) := by decide +kernel
  exact hd r (zs_lt h).1 h
theorem zs_f11_4 {r : Nat} (h : zs_sh r = some (11, 12)) : zs_rf r 4 = some (r + 165) ∧ zs_sh (r + 165) = some (10, 20) := by
  have hd : ∀ r, r < 251 → zs_sh r = some (11, 12) → zs_rf r 4 = some (r + 165) ∧ zs_sh (r + 165) = some (10, 20) := by decide +kernel
  exact hd r (zs_lt h).1 h
theorem zs_f11_5 {r : Nat} (h : zs_sh r = some (11, 12)) : zs_rf r 5 = some (r + 177) ∧ zs_sh (r + 177) = some (2, 3) := by
  have hd : ∀ r, r < 251 → zs_sh r = some (11, 12) → zs_rf r 5 = some (r + 177) ∧ zs_sh (r + 177) = some (2, 3) := by decide +kernel
  exact hd r (zs_lt h).1 h
theorem zs_f11_6 {r : Nat} (h : zs_sh r = some (11, 12)) : zs_rf r 6 = some (r + 180) ∧ zs_sh (r + 180) = some (7, 13) := by
  have hd : ∀ r, r < 251 → zs_sh r = some (11, 12) → zs_rf r 6 = some (r + 180) ∧ zs_sh (r + 180) = some (7, 13) := by decide +kernel
  exact hd r (zs_lt h).1 h
theorem zs_f11_7 {r : Nat} (h : zs_sh r = some (11, 12)) : zs_rf r 7 = some (r + 190) ∧ zs_sh (r + 190) = some (13, 400) := by
  have hd : ∀ r, r < 251 → zs_sh r = some (11, 12) → zs_rf r 7 = some (r + 190) ∧ zs_sh (r + 190) = some (13, 400) := by decide +kernel
  exact hd r (zs_lt h).1 h
theorem zs_f11_9 {r : Nat} (h : zs_sh r = some (11, 12)) : zs_rf r 9 = some (r + 191) ∧ zs_sh (r + 191) = some (8, 7) := by
  have hd : ∀ r, r < 251 → zs_sh r = some (11, 12) → zs_rf r 9 = some (r + 191) ∧ zs_sh (r + 191) = some (8, 7) := by decide +kernel
  exact hd r (zs_lt h).1 h
theorem zs_f11_10 {r : Nat} (h : zs_sh r = some (11, 12)) : zs_rf r 10 = some (r + 195) ∧ zs_sh (r + 195) = some (6, 11) := by
  have hd : ∀ r, r < 251 → zs_sh r = some (11, 12) → zs_rf r 10 = some (r + 195) ∧ zs_sh (r + 195) = some (6, 11) := by decide +kernel
  exact hd r (zs_lt h).1 h
theorem zs_f11_11 {r : Nat} (h : zs_sh r = some (11, 12)) : zs_rf r 11 = some (r + 212) ∧ zs_sh (r + 212) = some (4, 4) := by
  have hd : ∀ r, r < 251 → zs_sh r = some (11, 12) → zs_rf r 11 = some (r + 212) ∧ zs_sh (r + 212) = some (4, 4) := by decide +kernel
  exact hd r (zs_lt h).1 h
theorem zs_f12_1 {r : Nat} (h : zs_sh r = some (12, 65)) : zs_rf r 1 = some (r + 1) ∧ zs_sh (r + 1) = some (13, 264) := by
  have hd : ∀ r, r < 251 → zs_sh r = some (12, 65) → zs_rf r 1 = some (r + 1) ∧ zs_sh (r + 1) = some (13, 264) := by decide +kernel
  exact hd r (zs_lt h).1 h
theorem zs_f12_2 {r : Nat} (h : zs_sh r = some (12, 65)) : zs_rf r 2 = some (r + 2) ∧ zs_sh (r + 2) = some (13, 1584) := by
  have hd : ∀ r, r < 251 → zs_sh r = some (12, 65) → zs_rf r 2 = some (r + 2) ∧ zs_sh (r + 2) = some (13, 1584) := by decide +kernel
  exact hd r (zs_lt h).1 h
theorem zs_f12_4 {r : Nat} (h : zs_sh r = some (12, 65)) : zs_rf r 4 = some (r + 3) ∧ zs_sh (r + 3) = some (13, 264) := by
  have hd : ∀ r, r < 251 → zs_sh r = some (12, 65) → zs_rf r 4 = some (r + 3) ∧ zs_sh (r + 3) = some (13, 264) := by decide +kernel
  exact hd r (zs_lt h).1 h
theorem zs_f12_8 {r : Nat} (h : zs_sh r = some (12, 65)) : zs_rf r 8 = some (r + 4) ∧ zs_sh (r + 4) = some (13, 10) := by
  have hd : ∀ r, r < 251 → zs_sh r = some (12, 65) → zs_rf r 8 = some (r + 4) ∧ zs_sh (r + 4) = some (13, 10) := by decide +kernel
  exact hd r (zs_lt h).1 h
theorem zs_f12_9 {r : Nat} (h : zs_sh r = some (12, 65)) : zs_rf r 9 = some (r + 5) ∧ zs_sh (r + 5) = some (13, 10) := by
  have hd : ∀ r, r < 251 → zs_sh r = some (12, 65) → zs_rf r 9 = some (r + 5) ∧ zs_sh (r + 5) = some (13, 10) := by decide +kernel
  exact hd r (zs_lt h).1 h
theorem zs_f12_10 {r : Nat} (h : zs_sh r = some (12, 65)) : zs_rf r 10 = some (r + 6) ∧ zs_sh (r + 6) = some (13, 10) := by
  have hd : ∀ r, r < 251 → zs_sh r = some (12, 65) → zs_rf r 10 = some (r + 6) ∧ zs_sh (r + 6) = some (13, 10) := by decide +kernel
  exact hd r (zs_lt h).1 h
theorem zs_f12_11 {r : Nat} (h : zs_sh r = some (12, 65)) : zs_rf r 11 = some (r + 7) ∧ zs_sh (r + 7) = some (13, 600) := by
  have hd : ∀ r, r < 251 → zs_sh r = some (12, 65) → zs_rf r 11 = some (r + 7) ∧ zs_sh (r + 7) = some (13, 600) := by decide +kernel
  exact hd r (zs_lt h).1 h
theorem zs_f12_12 {r : Nat} (h : zs_sh r = some (12, 65)) : zs_rf r 12 = some (r + 8) ∧ zs_sh (r + 8) = some (13, 400) := by
  have hd : ∀ r, r < 251 → zs_sh r = some (12, 65) → zs_rf r 12 = some (r + 8) ∧ zs_sh (r + 8) = some (13, 400) := by decide +kernel
  exact hd r (zs_lt h).1 h
theorem zs_f12_18 {r : Nat} (h : zs_sh r = some (12, 65)) : zs_rf r 18 = some (r + 9) ∧ zs_sh (r + 9) = some (13, 129) := by
  have hd : ∀ r, r < 251 → zs_sh r = some (12, 65) → zs_rf r 18 = some (r + 9) ∧ zs_sh (r + 9) = some (13, 129) := by decide +kernel
  exact hd r (zs_lt h).1 h
theorem zs_f12_19 {r : Nat} (h : zs_sh r = some (12, 65)) : zs_rf r 19 = some (r + 10) ∧ zs_sh (r + 10) = some (13, 2) := by
  have hd : ∀ r, r < 251 → zs_sh r = some (12, 65) → zs_rf r 19 = some (r + 10) ∧ zs_sh (r + 10) = some (13, 2) := by decide +kernel
  exact hd r (zs_lt h).1 h
theorem zs_f12_20 {r : Nat} (h : zs_sh r = some (12, 65)) : zs_rf r 20 = some (r + 11) ∧ zs_sh (r + 11) = some (13, 48) := by
  have hd : ∀ r, r < 251 → zs_sh r = some (12, 65) → zs_rf r 20 = some (r + 11) ∧ zs_sh (r + 11) = some (13, 48) := by decide +kernel
  exact hd r (zs_lt h).1 h
theorem zs_f12_21 {r : Nat} (h : zs_sh r = some (12, 65)) : zs_rf r 21 = some (r + 12) ∧ zs_sh (r + 12) = some (13, 48) := by
  have hd : ∀ r, r < 251 → zs_sh r = some (12, 65) → zs_rf r 21 = some (r + 12) ∧ zs_sh (r + 12) = some (13, 48) := by decide +kernel
  exact hd r (zs_lt h).1 h
theorem zs_f12_22 {r : Nat} (h : zs_sh r = some (12, 65)) : zs_rf r 22 = some (r + 13) ∧ zs_sh (r + 13) = some (13, 48) := by
  have hd : ∀ r, r < 251 → zs_sh r = some (12, 65) → zs_rf r 22 = some (r + 13) ∧ zs_sh (r + 13) = some (13, 48) := by decide +kernel
  exact hd r (zs_lt h).1 h
theorem zs_f12_23 {r : Nat} (h : zs_sh r = some (12, 65)) : zs_rf r 23 = some (r + 14) ∧ zs_sh (r + 14) = some (13, 48) := by
  have hd : ∀ r, r < 251 → zs_sh r = some (12, 65) → zs_rf r 23 = some (r + 14) ∧ zs_sh (r + 14) = some (13, 48) := by decide +kernel
  exact hd r (zs_lt h).1 h
theorem zs_f12_24 {r : Nat} (h : zs_sh r = some (12, 65)) : zs_rf r 24 = some (r + 15) ∧ zs_sh (r + 15) = some (13, 1200) := by
  have hd : ∀ r, r < 251 → zs_sh r = some (12, 65) → zs_rf r 24 = some (r + 15) ∧ zs_sh (r + 15) = some (13, 1200) := by decide +kernel
  exact hd r (zs_lt h).1 h
theorem zs_f12_25 {r : Nat} (h : zs_sh r = some (12, 65)) : zs_rf r 25 = some (r + 16) ∧ zs_sh (r + 16) = some (13, 1200) := by
  have hd : ∀ r, r < 251 → zs_sh r = some (12, 65) → zs_rf r 25 = some (r + 16) ∧ zs_sh (r + 16) = some (13, 1200) := by decide +kernel
  exact hd r (zs_lt h).1 h
theorem zs_f12_29 {r : Nat} (h : zs_sh r = some (12, 65)) : zs_rf r 29 = some (r + 17) ∧ zs_sh (r + 17) = some (13, 40) := by
  have hd : ∀ r, r < 251 → zs_sh r = some (12, 65) → zs_rf r 29 = some (r + 17) ∧ zs_sh (r + 17) = some (13, 40) := by decide +kernel
  exact hd r (zs_lt h).1 h
theorem zs_f12_36 {r : Nat} (h : zs_sh r = some (12, 65)) : zs_rf r 36 = some (r + 18) ∧ zs_sh (r + 18) = some (13, 20) := by
  have hd : ∀ r, r < 251 → zs_sh r = some (12, 65) → zs_rf r 36 = some (r + 18) ∧ zs_sh (r + 18) = some (13, 20) := by decide +kernel
  exact hd r (zs_lt h).1 h
theorem zs_f12_38 {r : Nat} (h : zs_sh r = some (12, 65)) : zs_rf r 38 = some (r + 19) ∧ zs_sh (r + 19) = some (13, 64) := by
  have hd : ∀ r, r < 251 → zs_sh r = some (12, 65) → zs_rf r 38 = some (r + 19) ∧ zs_sh (r + 19) = some (13, 64) := by decide +kernel
  exact hd r (zs_lt h).1 h
theorem zs_f12_40 {r : Nat} (h : zs_sh r = some (12, 65)) : zs_rf r 40 = some (r + 20) ∧ zs_sh (r + 20) = some (13, 128) := by
  have hd : ∀ r, r < 251 → zs_sh r = some (12, 65) → zs_rf r 40 = some (r + 20) ∧ zs_sh (r + 20) = some (13, 128) := by decide +kernel
  exact hd r (zs_lt h).1 h
theorem zs_f12_41 {r : Nat} (h : zs_sh r = some (12, 65)) : zs_rf r 41 = some (r + 21) ∧ zs_sh (r + 21) = some (13, 9) := by
  have hd : ∀ r, r < 251 → zs_sh r = some (12, 65) → zs_rf r 41 = some (r + 21) ∧ zs_sh (r + 21) = some (13, 9) := by decide +kernel
  exact hd r (zs_lt h).1 h
theorem zs_f12_42 {r : Nat} (h : zs_sh r = some (12, 65)) : zs_rf r 42 = some (r + 22) ∧ zs_sh (r + 22) = some (13, 420) := by
  have hd : ∀ r, r < 251 → zs_sh r = some (12, 65) → zs_rf r 42 = some (r + 22) ∧ zs_sh (r + 22) = some (13, 420) := by decide +kernel
  exact hd r (zs_lt h).1 h
theorem zs_f12_44 {r : Nat} (h : zs_sh r = some (12, 65)) : zs_rf r 44 = some (r + 23) ∧ zs_sh (r + 23) = some (13, 90) := by
  have hd : ∀ r, r < 251 → zs_sh r = some (12, 65) → zs_rf r 44 = some (r + 23) ∧ zs_sh (r + 23) = some (13, 90) := by decide +kernel
  exact hd r (zs_lt h).1 h
theorem zs_f12_45 {r : Nat} (h : zs_sh r = some (12, 65)) : zs_rf r 45 = some (r + 24) ∧ zs_sh (r + 24) = some (13, 90) := by
  have hd : ∀ r, r < 251 → zs_sh r = some (12, 65) → zs_rf r 45 = some (r + 24) ∧ zs_sh (r + 24) = some (13, 90) := by decide +kernel
  exact hd r (zs_lt h).1 h
theorem zs_f12_47 {r : Nat} (h : zs_sh r = some (12, 65)) : zs_rf r 47 = some (r + 25) ∧ zs_sh (r + 25) = some (13, 8) := by
  have hd : ∀ r, r < 251 → zs_sh r = some (12, 65) → zs_rf r 47 = some (r + 25) ∧ zs_sh (r + 25) = some (13, 8) := by decide +kernel
  exact hd r (zs_lt h).1 h
theorem zs_f12_48 {r : Nat} (h : zs_sh r = some (12, 65)) : zs_rf r 48 = some (r + 26) ∧ zs_sh (r + 26) = some (13, 12) := by
  have hd : ∀ r, r < 251 → zs_sh r = some (12, 65) → zs_rf r 48 = some (r + 26) ∧ zs_sh (r + 26) = some (13, 12) := by decide +kernel
  exact hd r (zs_lt h).1 h
theorem zs_f12_49 {r : Nat} (h : zs_sh r = some (12, 65)) : zs_rf r 49 = some (r + 27) ∧ zs_sh (r + 27) = some (13, 1024) := by
  have hd : ∀ r, r < 251 → zs_sh r = some (12, 65) → zs_rf r 49 = some (r + 27) ∧ zs_sh (r + 27) = some (13, 1024) := by decide +kernel
  exact hd r (zs_lt h).1 h
theorem zs_f12_51 {r : Nat} (h : zs_sh r = some (12, 65)) : zs_rf r 51 = some (r + 28) ∧ zs_sh (r + 28) = some (13, 10) := by
  have hd : ∀ r, r < 251 → zs_sh r = some (12, 65) → zs_rf r 51 = some (r + 28) ∧ zs_sh (r + 28) = some (13, 10) := by decide +kernel
  exact hd r (zs_lt h).1 h
theorem zs_f12_52 {r : Nat} (h : zs_sh r = some (12, 65)) : zs_rf r 52 = some (r + 29) ∧ zs_sh (r + 29) = some (13, 16) := by
  have hd : ∀ r, r < 251 → zs_sh r = some (12, 65) → zs_rf r 52 = some (r + 29) ∧ zs_sh (r + 29) = some (13, 16) := by decide +kernel
  exact hd r (zs_lt h).1 h
theorem zs_f12_53 {r : Nat} (h : zs_sh r = some (12, 65)) : zs_rf r 53 = some (r + 30) ∧ zs_sh (r + 30) = some (13, 32) := by
  have hd : ∀ r, r < 251 → zs_sh r = some (12, 65) → zs_rf r 53 = some (r + 30) ∧ zs_sh (r + 30) = some (13, 32) := by decide +kernel
  exact hd r (zs_lt h).1 h
theorem zs_f12_54 {r : Nat} (h : zs_sh r = some (12, 65)) : zs_rf r 54 = some (r + 31) ∧ zs_sh (r + 31) = some (13, 4) := by
  have hd : ∀ r, r < 251 → zs_sh r = some (12, 65) → zs_rf r 54 = some (r + 31) ∧ zs_sh (r + 31) = some (13, 4) := by decide +kernel
  exact hd r (zs_lt h).1 h
theorem zs_f12_55 {r : Nat} (h : zs_sh r = some (12, 65)) : zs_rf r 55 = some (r + 32) ∧ zs_sh (r + 32) = some (13, 4) := by
  have hd : ∀ r, r < 251 → zs_sh r = some (12, 65) → zs_rf r 55 = some (r + 32) ∧ zs_sh (r + 32) = some (13, 4) := by decide +kernel
  exact hd r (zs_lt h).1 h
theorem zs_f12_57 {r : Nat} (h : zs_sh r = some (12, 65)) : zs_rf r 57 = some (r + 33) ∧ zs_sh (r + 33) = some (13, 40) := by
  have hd : ∀ r, r < 251 → zs_sh r = some (12, 65) → zs_rf r 57 = some (r + 33) ∧ zs_sh (r + 33) = some (13, 40) := by decide +kernel
  exact hd r (zs_lt h).1 h
theorem zs_f12_59 {r : Nat} (h : zs_sh r = some (12, 65)) : zs_rf r 59 = some (r + 34) ∧ zs_sh (r + 34) = some (13, 12) := by
  have hd : ∀ r, r < 251 → zs_sh r = some (12, 65) → zs_rf r 59 = some (r + 34) ∧ zs_sh (r + 34) = some (13, 12) := by decide +kernel
  exact hd r (zs_lt h).1 h
theorem zs_f12_60 {r : Nat} (h : zs_sh r = some (12, 65)) : zs_rf r 60 = some (r + 35) ∧ zs_sh (r + 35) = some (13, 91) := by
  have hd : ∀ r, r < 251 → zs_sh r = some (12, 65) → zs_rf r 60 = some (r + 35) ∧ zs_sh (r + 35) = some (13, 91) := by decide +kernel
  exact hd r (zs_lt h).1 h
theorem zs_f12_64 {r : Nat} (h : zs_sh r = some (12, 65)) : zs_rf r 64 = some (r + 36) ∧ zs_sh (r + 36) = some (13, 2300) := by
  have hd : ∀ r, r < 251 → zs_sh r = some (12, 65) → zs_rf r 64 = some (r + 36) ∧ zs_sh (r + 36) = some (13, 2300) := by decide +kernel
  exact hd r (zs_lt h).1 h
theorem zs_ring {i : Int} (h : 0 ≤ i ∧ i < 6) : zs_rf 92 i.toNat = some (93 + 12 * i.toNat) ∧ zs_sh (93 + 12 * i.toNat) = some (10, 20) := by
  have hd : ∀ k, k < 6 → zs_rf 92 k = some (93 + 12 * k) ∧ zs_sh (93 + 12 * k) = some (10, 20) := by decide +kernel
  exact hd i.toNat (by omega)
abbrev zi_i (v : Int) : Value := .int (Int32.ofInt v)
/-- the memory g is what lies in m -/
noncomputable def zi_m (g : zi_M) (m : sx_M) : Prop := m.1 = 251 ∧ (∀ i kd, zs_sh i = some kd → m.2.1 i = some kd) ∧ (∀ i k q, zs_rf i k = some q → m.2.2.2 i k = some q) ∧ ∀ i kd (k : Nat), zs_sh i = some kd → k < kd.2 → m.2.2.1 i k = Int32.ofInt (g i (k : Int))
noncomputable def zi_W (E : sx_E) (d j pc : Nat) (ls : List (Option Value)) (st : List Value) (g : zi_M) (R : Option Value → sx_M → Prop) : Prop := ∀ m, zi_m g m → sx_W E d 0 0 j pc ls st m R
noncomputable def zi_S (E : sx_E) (d j : Nat) (as : List Value) (g : zi_M) (R : Option Value → sx_M → Prop) : Prop := ∀ m, zi_m g m → sx_S E d 0 0 j as m R
noncomputable def zi_Q (Q : Int → zi_M → Prop) : Option Value → sx_M → Prop := fun v m => ∃ r g, v = some (zi_i r) ∧ zi_m g m ∧ Q r g
noncomputable def zi_Qb (Q : Int → zi_M → Prop) : Option Value → sx_M → Prop := fun v m => ∃ r g, v = some (zi_i r) ∧ zi_m g m ∧ (r = 0 ∨ r = 1) ∧ Q r g
noncomputable def zi_Qv (Q : Int → zi_M → Prop) : Option Value → sx_M → Prop := fun v m => ∃ g, v = none ∧ zi_m g m ∧ Q 0 g
/-- fewer locals are known -/
noncomputable def zi_sub : List (Option Value) → List (Option Value) → Prop
  | [], [] => True
  | none :: l, _ :: k => zi_sub l k
  | some v :: l, some w :: k => v = w ∧ zi_sub l k
  | _, _ => False
theorem zi_sub_len : ∀ {l k : List (Option Value)}, zi_sub l k → l.length = k.length
  | [], [], _ => rfl
  | none :: l, _ :: k, h => by simp only [List.length_cons, zi_sub_len (l := l) (k := k) h]
  | some v :: l, some w :: k, h => by simp only [List.length_cons, zi_sub_len h.2]
  | [], _ :: _, h => h.elim
  | some _ :: _, none :: _, h => h.elim
  | some _ :: _, [], h => h.elim
  | none :: _, [], h => h.elim
theorem zi_sub_nth : ∀ {l k : List (Option Value)}, zi_sub l k → ∀ i v, sx_nth l i = some v → sx_nth k i = some v
  | [], [], _, i, v, h => h
  | none :: l, _ :: k, hs, 0, v, h => by simp [sx_nth] at h
  | none :: l, _ :: k, hs, i + 1, v, h => zi_sub_nth (l := l) (k := k) hs i v h
  | some a :: l, some w :: k, hs, 0, v, h => by
    have e : a = w := hs.1
    subst e
    exact h
  | some a :: l, some w :: k, hs, i + 1, v, h => zi_sub_nth (l := l) (k := k) hs.2 i v h
  | [], _ :: _, h, _, _, _ => h.elim
  | some _ :: _, none :: _, h, _, _, _ => h.elim
  | some _ :: _, [], h, _, _, _ => h.elim
  | none :: _, [], h, _, _, _ => h.elim
theorem sx_W.ok {E : sx_E} {d kc ks j pc : Nat} {ls : List (Option Value)} {st : List Value} {m : sx_M} {Q : Option Value → sx_M → Prop} (h : sx_ok j → sx_W E d kc ks j pc ls st m Q) : sx_W E d kc ks j pc ls st m Q := by
  intro p e s mi args below meth c H locs cells slots KC KS A hx hb hml hr hlk hin hown hts hok hK hR hlo hfr hcl hsl
  exact h hok p e s mi args below meth c H locs cells slots KC KS A hx hb hml hr hlk hin hown hts hok hK hR hlo hfr hcl hsl
theorem zi_idx {i : Int} {N : Nat} (h : 0 ≤ i ∧ i < (N : Int)) (hN : N ≤ 2300) : ¬ (Int32.ofInt i < 0 ∨ N ≤ (Int32.ofInt i).toNatClampNeg) ∧ (Int32.ofInt i).toNatClampNeg = i.toNat := by
  have e : (Int32.ofInt i).toInt = i := zi_to ⟨by omega, by omega⟩
  have e2 : (Int32.ofInt i).toNatClampNeg = i.toNat := by show (Int32.ofInt i).toInt.toNat = _; rw [e]
  refine ⟨?_, e2⟩
  rintro (hx | hx)
  · have := Int32.lt_iff_toInt_lt.mp hx
    rw [e, show (0 : Int32).toInt = 0 from rfl] at this
    omega
  · rw [e2] at hx
    omega
theorem zi_m.set {g : zi_M} {m : sx_M} {a : Nat} {kd : Nat × Nat} {i v : Int} (h : zi_m g m) (hs : zs_sh a = some kd) (hi : 0 ≤ i ∧ i < (kd.2 : Int)) : zi_m (zi_u g a i v) (m.1, m.2.1, sx_up m.2.2.1 a i.toNat (Int32.ofInt v), m.2.2.2) := by
  refine ⟨h.1, h.2.1, h.2.2.1, fun b kd2 k hb hk => ?_⟩
  show sx_up m.2.2.1 a i.toNat (Int32.ofInt v) b k = _
  by_cases hba : b = a
  · subst hba
    rw [sx_up_eq]
    by_cases hki : k = i.toNat
    · subst hki
      rw [sx_u1_eq, show ((i.toNat : Nat) : Int) = i by omega, zi_u_eq]
    · rw [sx_u1_ne hki, zi_u_ni (by omega)]
      exact h.2.2.2 b kd2 k hb hk
  · rw [sx_up_ne hba, zi_u_ne hba]
    exact h.2.2.2 b kd2 k hb hk
section
variable {E : sx_E} {d j pc n x y : Nat} {z : Int32} {ls : List (Option Value)} {st : List Value} {g : zi_M} {R : Option Value → sx_M → Prop}
theorem zi_wk {l2 : List (Option Value)} (h : zi_W E d j pc l2 st g R) (hs : zi_sub l2 ls) : zi_W E d j pc ls st g R :=
  fun m hm => (h m hm).wk (by rw [zi_sub_len hs]; exact Nat.le_refl _) (zi_sub_nth hs)
theorem zi_iconst {q : Int} {pc' : Nat} (ht : sx_tab j pc = some (.iconst q, n, x, y, z)) (hp : pc + 1 = pc') (k : zi_W E d j pc' ls (zi_i q :: st) g R) : zi_W E d j pc ls st g R := by
  intro m hm
  refine sx_W.ok fun hok => ?_
  have h1 := (hok _ _ ht).1
  simp only [sx_okE, Bool.and_eq_true, decide_eq_true_eq] at h1
  have h2 : z = Int32.ofInt q := h1.2.symm
  subst hp
  subst h2
  exact sx_iconst ht (k m hm)
theorem zi_i8 {q : Int} (h : -128 ≤ q ∧ q ≤ 127) : (Int8.ofInt q).toInt32 = Int32.ofInt q := by
  apply Int32.toInt_inj.mp
  rw [zi_to ⟨by omega, by omega⟩, Int8.toInt_toInt32, Int8.toInt_ofInt]
  show q.bmod 256 = q
  rw [Int.bmod_def]
  omega
theorem zi_i16 {q : Int} (h : -32768 ≤ q ∧ q ≤ 32767) : (Int16.ofInt q).toInt32 = Int32.ofInt q := by
  apply Int32.toInt_inj.mp
  rw [zi_to ⟨by omega, by omega⟩, Int16.toInt_toInt32, Int16.toInt_ofInt]
  show q.bmod 65536 = q
  rw [Int.bmod_def]
  omega
theorem zi_bipush {q : Int} {pc' : Nat} (ht : sx_tab j pc = some (.bipush q, n, x, y, z)) (hp : pc + 2 = pc') (hq : -128 ≤ q ∧ q ≤ 127) (k : zi_W E d j pc' ls (zi_i q :: st) g R) : zi_W E d j pc ls st g R := by
  intro m hm
  refine sx_W.ok fun hok => ?_
  have h1 := (hok _ _ ht).1
  simp only [sx_okE, Bool.and_eq_true, decide_eq_true_eq] at h1
  have h2 : z = Int32.ofInt q := by rw [← h1.2, zi_i8 hq]
  subst hp
  subst h2
  exact sx_bipush ht (k m hm)
theorem zi_sipush {q : Int} {pc' : Nat} (ht : sx_tab j pc = some (.sipush q, n, x, y, z)) (hp : pc + 3 = pc') (hq : -32768 ≤ q ∧ q ≤ 32767) (k : zi_W E d j pc' ls (zi_i q :: st) g R) : zi_W E d j pc ls st g R := by
  intro m hm
  refine sx_W.ok fun hok => ?_
  have h1 := (hok _ _ ht).1
  simp only [sx_okE, Bool.and_eq_true, decide_eq_true_eq] at h1
  have h2 : z = Int32.ofInt q := by rw [← h1.2, zi_i16 hq]
  subst hp
  subst h2
  exact sx_sipush ht (k m hm)
theorem zi_ldc {i : Nat} {v : Int} {pc' : Nat} (ht : sx_tab j pc = some (.ldc i, n, 0, y, z)) (hp : pc + 2 = pc') (hz : z = Int32.ofInt v) (k : zi_W E d j pc' ls (zi_i v :: st) g R) : zi_W E d j pc ls st g R := by
  intro m hm
  subst hp
  subst hz
  exact sx_ldc ht (k m hm)
theorem zi_ldcw {i : Nat} {v : Int} {pc' : Nat} (ht : sx_tab j pc = some (.ldc_w i, n, x, y, z)) (hp : pc + 3 = pc') (hz : z = Int32.ofInt v) (k : zi_W E d j pc' ls (zi_i v :: st) g R) : zi_W E d j pc ls st g R := by
  intro m hm
  subst hp
  subst hz
  exact sx_ldcw ht (k m hm)
theorem zi_ldcS {i : Nat} {pc' : Nat} (ht : sx_tab j pc = some (.ldc i, n, x, y, z)) (hp : pc + 2 = pc') (hx0 : Nat.beq x 0 = false) (k : zi_W E d j pc' ls (.ref (1000000000 + x) :: st) g R) : zi_W E d j pc ls st g R := by
  intro m hm
  subst hp
  exact sx_ldcS ht hx0 (k m hm)

theorem zi_iload_n {w : Fin 4} {v : Int} {pc' : Nat} (ht : sx_tab j pc = some (.iload_n w, n, x, y, z)) (hp : pc + 1 = pc') (hv : sx_nth ls w.val = some (zi_i v)) (k : zi_W E d j pc' ls (zi_i v :: st) g R) : zi_W E d j pc ls st g R := by
  intro m hm
  subst hp
  exact sx_iload_n ht hv (k m hm)
theorem zi_iload {w : Nat} {v : Int} {pc' : Nat} (ht : sx_tab j pc = some (.iload w, n, x, y, z)) (hp : pc + 2 = pc') (hv : sx_nth ls w = some (zi_i v)) (k : zi_W E d j pc' ls (zi_i v :: st) g R) : zi_W E d j pc ls st g R := by
  intro m hm
  subst hp
  exact sx_iload ht hv (k m hm)
theorem zi_aload_n {w : Fin 4} {v : Nat} {pc' : Nat} (ht : sx_tab j pc = some (.aload_n w, n, x, y, z)) (hp : pc + 1 = pc') (hv : sx_nth ls w.val = some (.ref v)) (k : zi_W E d j pc' ls (.ref v :: st) g R) : zi_W E d j pc ls st g R := by
  intro m hm
  subst hp
  exact sx_aload_n ht hv (k m hm)
theorem zi_aload {w : Nat} {v : Nat} {pc' : Nat} (ht : sx_tab j pc = some (.aload w, n, x, y, z)) (hp : pc + 2 = pc') (hv : sx_nth ls w = some (.ref v)) (k : zi_W E d j pc' ls (.ref v :: st) g R) : zi_W E d j pc ls st g R := by
  intro m hm
  subst hp
  exact sx_aload ht hv (k m hm)
theorem zi_istore_n {w : Fin 4} {v : Int} {pc' : Nat} (ls' : List (Option Value)) (ht : sx_tab j pc = some (.istore_n w, n, x, y, z)) (hp : pc + 1 = pc') (hl : sx_put ls w.val (some (zi_i v)) = ls') (k : zi_W E d j pc' ls' st g R) : zi_W E d j pc ls (zi_i v :: st) g R := by
  intro m hm
  subst hp
  subst hl
  exact sx_istore_n ht (k m hm)
theorem zi_istore {w : Nat} {v : Int} {pc' : Nat} (ls' : List (Option Value)) (ht : sx_tab j pc = some (.istore w, n, x, y, z)) (hp : pc + 2 = pc') (hl : sx_put ls w (some (zi_i v)) = ls') (k : zi_W E d j pc' ls' st g R) : zi_W E d j pc ls (zi_i v :: st) g R := by
  intro m hm
  subst hp
  subst hl
  exact sx_istore ht (k m hm)
theorem zi_astore_n {w : Fin 4} {v : Nat} {pc' : Nat} (ls' : List (Option Value)) (ht : sx_tab j pc = some (.astore_n w, n, x, y, z)) (hp : pc + 1 = pc') (hl : sx_put ls w.val (some (.ref v)) = ls') (k : zi_W E d j pc' ls' st g R) : zi_W E d j pc ls (.ref v :: st) g R := by
  intro m hm
  subst hp
  subst hl
  exact sx_astore_n ht (k m hm)
theorem zi_astore {w : Nat} {v : Nat} {pc' : Nat} (ls' : List (Option Value)) (ht : sx_tab j pc = some (.astore w, n, x, y, z)) (hp : pc + 2 = pc') (hl : sx_put ls w (some (.ref v)) = ls') (k : zi_W E d j pc' ls' st g R) : zi_W E d j pc ls (.ref v :: st) g R := by
  intro m hm
  subst hp
  subst hl
  exact sx_astore ht (k m hm)
theorem zi_iinc {i : Nat} {q v : Int} {pc' : Nat} (ls' : List (Option Value)) (ht : sx_tab j pc = some (.iinc i q, n, x, y, z)) (hp : pc + 3 = pc') (hv : sx_nth ls i = some (zi_i v)) (hl : sx_put ls i (some (zi_i (v + q))) = ls') (k : zi_W E d j pc' ls' st g R) : zi_W E d j pc ls st g R := by
  intro m hm
  refine sx_W.ok fun hok => ?_
  have h1 := (hok _ _ ht).1
  simp only [sx_okE, Bool.and_eq_true, decide_eq_true_eq] at h1
  have h2 : z = Int32.ofInt q := h1.2.2.symm
  subst hp
  subst hl
  subst h2
  have h3 := k m hm
  rw [show zi_i (v + q) = .int (Int32.ofInt v + Int32.ofInt q) by show Value.int _ = _; rw [Int32.ofInt_add]] at h3
  exact sx_iinc ht hv h3
theorem zi_iadd {a b : Int} {pc' : Nat} (ht : sx_tab j pc = some (.iadd, n, x, y, z)) (hp : pc + 1 = pc') (k : zi_W E d j pc' ls (zi_i (a + b) :: st) g R) : zi_W E d j pc ls (zi_i b :: zi_i a :: st) g R := by
  intro m hm
  subst hp
  have h3 := k m hm
  rw [show zi_i (a + b) = .int (Int32.ofInt a + Int32.ofInt b) by show Value.int _ = _; rw [Int32.ofInt_add]] at h3
  exact sx_iadd ht h3
theorem zi_isub {a b : Int} {pc' : Nat} (ht : sx_tab j pc = some (.isub, n, x, y, z)) (hp : pc + 1 = pc') (k : zi_W E d j pc' ls (zi_i (a - b) :: st) g R) : zi_W E d j pc ls (zi_i b :: zi_i a :: st) g R := by
  intro m hm
  subst hp
  have h3 := k m hm
  rw [show zi_i (a - b) = .int (Int32.ofInt a - Int32.ofInt b) by show Value.int _ = _; rw [Int32.ofInt_sub]] at h3
  exact sx_isub ht h3
theorem zi_imul {a b : Int} {pc' : Nat} (ht : sx_tab j pc = some (.imul, n, x, y, z)) (hp : pc + 1 = pc') (k : zi_W E d j pc' ls (zi_i (a * b) :: st) g R) : zi_W E d j pc ls (zi_i b :: zi_i a :: st) g R := by
  intro m hm
  subst hp
  have h3 := k m hm
  rw [show zi_i (a * b) = .int (Int32.ofInt a * Int32.ofInt b) by show Value.int _ = _; rw [Int32.ofInt_mul]] at h3
  exact sx_imul ht h3
theorem zi_iand {a b : Int} {pc' : Nat} (ht : sx_tab j pc = some (.iand, n, x, y, z)) (hp : pc + 1 = pc') (k : zi_W E d j pc' ls (zi_i (zi_and a b) :: st) g R) : zi_W E d j pc ls (zi_i b :: zi_i a :: st) g R := by
  intro m hm
  subst hp
  have h3 := k m hm
  rw [show zi_i (zi_and a b) = .int (Int32.ofInt a &&& Int32.ofInt b) by show Value.int _ = _; unfold zi_and; rw [Int32.ofInt_toInt]] at h3
  exact sx_iand ht h3
theorem zi_ior {a b : Int} {pc' : Nat} (ht : sx_tab j pc = some (.ior, n, x, y, z)) (hp : pc + 1 = pc') (k : zi_W E d j pc' ls (zi_i (zi_or a b) :: st) g R) : zi_W E d j pc ls (zi_i b :: zi_i a :: st) g R := by
  intro m hm
  subst hp
  have h3 := k m hm
  rw [show zi_i (zi_or a b) = .int (Int32.ofInt a ||| Int32.ofInt b) by show Value.int _ = _; unfold zi_or; rw [Int32.ofInt_toInt]] at h3
  exact sx_ior ht h3
theorem zi_ixor {a b : Int} {pc' : Nat} (ht : sx_tab j pc = some (.ixor, n, x, y, z)) (hp : pc + 1 = pc') (k : zi_W E d j pc' ls (zi_i (zi_xor a b) :: st) g R) : zi_W E d j pc ls (zi_i b :: zi_i a :: st) g R := by
  intro m hm
  subst hp
  have h3 := k m hm
  rw [show zi_i (zi_xor a b) = .int (Int32.ofInt a ^^^ Int32.ofInt b) by show Value.int _ = _; unfold zi_xor; rw [Int32.ofInt_toInt]] at h3
  exact sx_ixor ht h3
theorem zi_ishl {a b : Int} {pc' : Nat} (ht : sx_tab j pc = some (.ishl, n, x, y, z)) (hp : pc + 1 = pc') (k : zi_W E d j pc' ls (zi_i (zi_shl a b) :: st) g R) : zi_W E d j pc ls (zi_i b :: zi_i a :: st) g R := by
  intro m hm
  subst hp
  have h3 := k m hm
  rw [show zi_i (zi_shl a b) = .int (Int32.ofInt a <<< (Int32.ofInt b &&& 31)) by show Value.int _ = _; unfold zi_shl; rw [Int32.ofInt_toInt]] at h3
  exact sx_ishl ht h3
theorem zi_ishr {a b : Int} {pc' : Nat} (ht : sx_tab j pc = some (.ishr, n, x, y, z)) (hp : pc + 1 = pc') (k : zi_W E d j pc' ls (zi_i (zi_shr a b) :: st) g R) : zi_W E d j pc ls (zi_i b :: zi_i a :: st) g R := by
  intro m hm
  subst hp
  have h3 := k m hm
  rw [show zi_i (zi_shr a b) = .int (Int32.ofInt a >>> (Int32.ofInt b &&& 31)) by show Value.int _ = _; unfold zi_shr; rw [Int32.ofInt_toInt]] at h3
  exact sx_ishr ht h3
theorem zi_iushr {a b : Int} {pc' : Nat} (ht : sx_tab j pc = some (.iushr, n, x, y, z)) (hp : pc + 1 = pc') (k : zi_W E d j pc' ls (zi_i (zi_ush a b) :: st) g R) : zi_W E d j pc ls (zi_i b :: zi_i a :: st) g R := by
  intro m hm
  subst hp
  have h3 := k m hm
  rw [show zi_i (zi_ush a b) = .int (((Int32.ofInt a).toUInt32 >>> (Int32.ofInt b &&& 31).toUInt32).toInt32) by show Value.int _ = _; unfold zi_ush; rw [Int32.ofInt_toInt]] at h3
  exact sx_iushr ht h3
theorem zi_wrap {a : Int} (k : zi_W E d j pc ls (zi_i (zi_w a) :: st) g R) : zi_W E d j pc ls (zi_i a :: st) g R := by
  intro m hm
  have h3 := k m hm
  rw [show zi_i (zi_w a) = zi_i a by show Value.int _ = _; rw [zi_of_w]] at h3
  exact h3
theorem zi_divE {a b : Int} (ra : zi_r a) (rb : zi_r b) : Int32.ofInt a / Int32.ofInt b = Int32.ofInt (Int.tdiv a b) := by
  apply Int32.toInt_inj.mp
  rw [Int32.toInt_div, zi_to ra, zi_to rb, Int32.toInt_ofInt]
theorem zi_ne0 {b : Int} (rb : zi_r b) (hb : b ≠ 0) : ¬ Int32.ofInt b = 0 := by
  intro h
  have := congrArg Int32.toInt h
  rw [zi_to rb, show (0 : Int32).toInt = 0 from rfl] at this
  exact hb this
theorem zi_idiv {a b : Int} {pc' : Nat} (ht : sx_tab j pc = some (.idiv, n, x, y, z)) (hp : pc + 1 = pc') (ra : zi_r a) (rb : zi_r b) (hb : b ≠ 0) (k : zi_W E d j pc' ls (zi_i (Int.tdiv a b) :: st) g R) : zi_W E d j pc ls (zi_i b :: zi_i a :: st) g R := by
  intro m hm
  subst hp
  have h3 := k m hm
  rw [show zi_i (Int.tdiv a b) = .int (Int32.ofInt a / Int32.ofInt b) by show Value.int _ = _; rw [zi_divE ra rb]] at h3
  exact sx_idiv ht (zi_ne0 rb hb) h3
theorem zi_irem {a b : Int} {pc' : Nat} (ht : sx_tab j pc = some (.irem, n, x, y, z)) (hp : pc + 1 = pc') (ra : zi_r a) (rb : zi_r b) (hb : b ≠ 0) (k : zi_W E d j pc' ls (zi_i (Int.tmod a b) :: st) g R) : zi_W E d j pc ls (zi_i b :: zi_i a :: st) g R := by
  intro m hm
  subst hp
  have h3 := k m hm
  rw [show zi_i (Int.tmod a b) = .int (Int32.ofInt a - Int32.ofInt a / Int32.ofInt b * Int32.ofInt b) by show Value.int _ = _; rw [zi_divE ra rb, ← Int32.ofInt_mul, ← Int32.ofInt_sub, Int.tmod_def, Int.mul_comm]] at h3
  exact sx_irem ht (zi_ne0 rb hb) h3
theorem zi_dup {v : Value} {pc' : Nat} (ht : sx_tab j pc = some (.dup, n, x, y, z)) (hp : pc + 1 = pc') (hc : v.category = 1) (k : zi_W E d j pc' ls (v :: v :: st) g R) : zi_W E d j pc ls (v :: st) g R := by
  intro m hm
  subst hp
  exact sx_dup ht hc (k m hm)
theorem zi_dup2 {v w : Value} {pc' : Nat} (ht : sx_tab j pc = some (.dup2, n, x, y, z)) (hp : pc + 1 = pc') (hc : v.category = 1) (hc2 : w.category = 1) (k : zi_W E d j pc' ls (v :: w :: v :: w :: st) g R) : zi_W E d j pc ls (v :: w :: st) g R := by
  intro m hm
  subst hp
  exact sx_dup2 ht hc hc2 (k m hm)
theorem zi_pop {v : Value} {pc' : Nat} (ht : sx_tab j pc = some (.pop, n, x, y, z)) (hp : pc + 1 = pc') (hc : v.category = 1) (k : zi_W E d j pc' ls st g R) : zi_W E d j pc ls (v :: st) g R := by
  intro m hm
  subst hp
  exact sx_pop ht hc (k m hm)
theorem zi_goto {off : Int} (ht : sx_tab j pc = some (.goto off, n, x, y, z)) (k : zi_W E d j x ls st g R) : zi_W E d j pc ls st g R := fun m hm => sx_goto ht (k m hm)
theorem zi_geti {i a N : Nat} {pc' : Nat} (yi : Int) (hyi : (y : Int) = yi) (ht : sx_tab j pc = some (.getfield i, n, x, y, z)) (hp : pc + 3 = pc') (hs : zs_sh a = some (x, N)) (hy : Nat.ble (y + 1) N = true) (hi : sx_isI x y = true) (k : zi_W E d j pc' ls (zi_i (g a yi) :: st) g R) : zi_W E d j pc ls (.ref a :: st) g R := by
  intro m hm
  subst hp
  subst hyi
  have h3 := k m hm
  have e : m.2.2.1 a y = Int32.ofInt (g a (y : Int)) := hm.2.2.2 a _ y hs (Nat.le_of_ble_eq_true hy)
  refine sx_get ht (hm.2.1 a _ hs) ?_
  rw [hi, e]
  exact h3
theorem zi_getr {i a N q : Nat} {pc' : Nat} (ht : sx_tab j pc = some (.getfield i, n, x, y, z)) (hp : pc + 3 = pc') (hs : zs_sh a = some (x, N)) (hq : zs_rf a y = some q) (hi : sx_isI x y = false) (k : zi_W E d j pc' ls (.ref q :: st) g R) : zi_W E d j pc ls (.ref a :: st) g R := by
  intro m hm
  subst hp
  have h3 := k m hm
  refine sx_get ht (hm.2.1 a _ hs) ?_
  rw [hi, hm.2.2.1 a y q hq]
  exact h3
theorem zi_puti {i a N : Nat} {v : Int} {pc' : Nat} (yi : Int) (hyi : (y : Int) = yi) (ht : sx_tab j pc = some (.putfield i, n, x, y, z)) (hp : pc + 3 = pc') (hs : zs_sh a = some (x, N)) (hy : (Nat.ble (y + 1) N && (Nat.ble (x + 1) 13 && (Nat.ble (y + 1) (sx_N x) && (sx_isI x y && !sx_isZ x y)))) = true) (k : zi_W E d j pc' ls st (zi_u g a yi v) R) : zi_W E d j pc ls (zi_i v :: .ref a :: st) g R := by
  intro m hm
  subst hp
  subst hyi
  simp only [Bool.and_eq_true, Bool.not_eq_true'] at hy
  have hl := Nat.le_of_ble_eq_true hy.1
  refine sx_putI ht (hm.2.1 a _ hs) (Nat.le_of_ble_eq_true hy.2.1) (Nat.le_of_ble_eq_true hy.2.2.1) hy.2.2.2.1 (Or.inl hy.2.2.2.2) (k _ ?_)
  exact hm.set (i := (y : Int)) hs ⟨by omega, by show (y : Int) < (N : Int); omega⟩
theorem zi_putz {i a N : Nat} {v : Int} {pc' : Nat} (yi : Int) (hyi : (y : Int) = yi) (ht : sx_tab j pc = some (.putfield i, n, x, y, z)) (hp : pc + 3 = pc') (hs : zs_sh a = some (x, N)) (hy : (Nat.ble (y + 1) N && (Nat.ble (x + 1) 13 && (Nat.ble (y + 1) (sx_N x) && sx_isI x y))) = true) (hv : v = 0 ∨ v = 1) (k : zi_W E d j pc' ls st (zi_u g a yi v) R) : zi_W E d j pc ls (zi_i v :: .ref a :: st) g R := by
  intro m hm
  subst hp
  subst hyi
  simp only [Bool.and_eq_true] at hy
  have hl := Nat.le_of_ble_eq_true hy.1
  refine sx_putI ht (hm.2.1 a _ hs) (Nat.le_of_ble_eq_true hy.2.1) (Nat.le_of_ble_eq_true hy.2.2.1) hy.2.2.2 (Or.inr ?_) (k _ ?_)
  · rcases hv with h | h <;> subst h
    · exact Or.inl rfl
    · exact Or.inr rfl
  · exact hm.set (i := (y : Int)) hs ⟨by omega, by show (y : Int) < (N : Int); omega⟩
theorem zi_iald {a N : Nat} {i : Int} {pc' : Nat} (ht : sx_tab j pc = some (.iaload, n, x, y, z)) (hp : pc + 1 = pc') (hs : zs_sh a = some (13, N)) (hi : 0 ≤ i ∧ i < (N : Int)) (k : zi_W E d j pc' ls (zi_i (g a i) :: st) g R) : zi_W E d j pc ls (zi_i i :: .ref a :: st) g R := by
  intro m hm
  subst hp
  have h3 := k m hm
  have h4 := zi_idx hi (zs_lt hs).2
  have e : m.2.2.1 a i.toNat = Int32.ofInt (g a i) := by
    rw [hm.2.2.2 a _ i.toNat hs (by show i.toNat < N; omega), show ((i.toNat : Nat) : Int) = i by omega]
  refine sx_iald ht (hm.2.1 a _ hs) h4.1 ?_
  rw [h4.2, e]
  exact h3
theorem zi_iast {a N : Nat} {i v : Int} {pc' : Nat} (ht : sx_tab j pc = some (.iastore, n, x, y, z)) (hp : pc + 1 = pc') (hs : zs_sh a = some (13, N)) (hi : 0 ≤ i ∧ i < (N : Int)) (k : zi_W E d j pc' ls st (zi_u g a i v) R) : zi_W E d j pc ls (zi_i v :: zi_i i :: .ref a :: st) g R := by
  intro m hm
  subst hp
  have h4 := zi_idx hi (zs_lt hs).2
  refine sx_iast ht (hm.2.1 a _ hs) h4.1 ?_
  rw [h4.2]
  exact k _ (hm.set hs hi)
theorem zi_aald {a N q : Nat} {i : Int} {pc' : Nat} (ht : sx_tab j pc = some (.aaload, n, x, y, z)) (hp : pc + 1 = pc') (hs : zs_sh a = some (14, N)) (hi : 0 ≤ i ∧ i < (N : Int)) (hq : zs_rf a i.toNat = some q) (k : zi_W E d j pc' ls (.ref q :: st) g R) : zi_W E d j pc ls (zi_i i :: .ref a :: st) g R := by
  intro m hm
  subst hp
  have h4 := zi_idx hi (zs_lt hs).2
  refine sx_aald ht (hm.2.1 a _ hs) h4.1 ?_
  rw [h4.2, hm.2.2.1 a _ q hq]
  exact k m hm
theorem zi_alen {a N : Nat} {pc' : Nat} (ht : sx_tab j pc = some (.arraylength, n, x, y, z)) (hp : pc + 1 = pc') (hs : zs_sh a = some (13, N)) (k : zi_W E d j pc' ls (zi_i (N : Int) :: st) g R) : zi_W E d j pc ls (.ref a :: st) g R := by
  intro m hm
  subst hp
  have h3 := k m hm
  refine sx_alen ht (hm.2.1 a _ hs) ?_
  rw [show zi_i (N : Int) = .int (Int32.ofNat N) by show Value.int _ = _; rw [Int32.ofInt_eq_ofNat]] at h3
  exact h3
theorem zi_lt {a b : Int} (ra : zi_r a) (rb : zi_r b) : Int32.ofInt a < Int32.ofInt b ↔ a < b := by rw [Int32.lt_iff_toInt_lt, zi_to ra, zi_to rb]
theorem zi_le {a b : Int} (ra : zi_r a) (rb : zi_r b) : Int32.ofInt a ≤ Int32.ofInt b ↔ a ≤ b := by rw [Int32.le_iff_toInt_le, zi_to ra, zi_to rb]
theorem zi_eq {a b : Int} (ra : zi_r a) (rb : zi_r b) : Int32.ofInt a = Int32.ofInt b ↔ a = b := by rw [← Int32.toInt_inj, zi_to ra, zi_to rb]
theorem zi_r0 : zi_r 0 := by decide
theorem zi_z0 : (0 : Int32) = Int32.ofInt 0 := by decide
theorem zi_icmp_eq {off a b : Int} {pc' : Nat} (ht : sx_tab j pc = some (.if_icmp .eq off, n, x, y, z)) (hp : pc + 3 = pc') (ra : zi_r a) (rb : zi_r b) (kT : a = b → zi_W E d j x ls st g R) (kF : ¬ a = b → zi_W E d j pc' ls st g R) : zi_W E d j pc ls (zi_i b :: zi_i a :: st) g R := by
  intro m hm
  subst hp
  exact sx_icmp ht ⟨fun hc => kT ((zi_eq ra rb).mp hc) m hm, fun hc => kF ((fun e => hc ((zi_eq ra rb).mpr e))) m hm⟩
theorem zi_if_eq {off a : Int} {pc' : Nat} (ht : sx_tab j pc = some (.ifCond .eq off, n, x, y, z)) (hp : pc + 3 = pc') (ra : zi_r a) (kT : a = 0 → zi_W E d j x ls st g R) (kF : ¬ a = 0 → zi_W E d j pc' ls st g R) : zi_W E d j pc ls (zi_i a :: st) g R := by
  intro m hm
  subst hp
  have rb := zi_r0
  refine sx_if ht ?_
  show sx_br2 .eq (Int32.ofInt a) 0 _ _
  rw [zi_z0]
  exact ⟨fun hc => kT ((zi_eq ra rb).mp hc) m hm, fun hc => kF ((fun e => hc ((zi_eq ra rb).mpr e))) m hm⟩
theorem zi_icmp_ne {off a b : Int} {pc' : Nat} (ht : sx_tab j pc = some (.if_icmp .ne off, n, x, y, z)) (hp : pc + 3 = pc') (ra : zi_r a) (rb : zi_r b) (kT : ¬ a = b → zi_W E d j x ls st g R) (kF : a = b → zi_W E d j pc' ls st g R) : zi_W E d j pc ls (zi_i b :: zi_i a :: st) g R := by
  intro m hm
  subst hp
  exact sx_icmp ht ⟨fun hc => kT ((fun e => hc ((zi_eq ra rb).mpr e))) m hm, fun hc => kF ((zi_eq ra rb).mp hc) m hm⟩
theorem zi_if_ne {off a : Int} {pc' : Nat} (ht : sx_tab j pc = some (.ifCond .ne off, n, x, y, z)) (hp : pc + 3 = pc') (ra : zi_r a) (kT : ¬ a = 0 → zi_W E d j x ls st g R) (kF : a = 0 → zi_W E d j pc' ls st g R) : zi_W E d j pc ls (zi_i a :: st) g R := by
  intro m hm
  subst hp
  have rb := zi_r0
  refine sx_if ht ?_
  show sx_br2 .ne (Int32.ofInt a) 0 _ _
  rw [zi_z0]
  exact ⟨fun hc => kT ((fun e => hc ((zi_eq ra rb).mpr e))) m hm, fun hc => kF ((zi_eq ra rb).mp hc) m hm⟩
theorem zi_icmp_lt {off a b : Int} {pc' : Nat} (ht : sx_tab j pc = some (.if_icmp .lt off, n, x, y, z)) (hp : pc + 3 = pc') (ra : zi_r a) (rb : zi_r b) (kT : a < b → zi_W E d j x ls st g R) (kF : b ≤ a → zi_W E d j pc' ls st g R) : zi_W E d j pc ls (zi_i b :: zi_i a :: st) g R := by
  intro m hm
  subst hp
  exact sx_icmp ht ⟨fun hc => kT ((zi_lt ra rb).mp hc) m hm, fun hc => kF ((Int.not_lt.mp (fun e => hc ((zi_lt ra rb).mpr e)))) m hm⟩
theorem zi_if_lt {off a : Int} {pc' : Nat} (ht : sx_tab j pc = some (.ifCond .lt off, n, x, y, z)) (hp : pc + 3 = pc') (ra : zi_r a) (kT : a < 0 → zi_W E d j x ls st g R) (kF : 0 ≤ a → zi_W E d j pc' ls st g R) : zi_W E d j pc ls (zi_i a :: st) g R := by
  intro m hm
  subst hp
  have rb := zi_r0
  refine sx_if ht ?_
  show sx_br2 .lt (Int32.ofInt a) 0 _ _
  rw [zi_z0]
  exact ⟨fun hc => kT ((zi_lt ra rb).mp hc) m hm, fun hc => kF ((Int.not_lt.mp (fun e => hc ((zi_lt ra rb).mpr e)))) m hm⟩
theorem zi_icmp_ge {off a b : Int} {pc' : Nat} (ht : sx_tab j pc = some (.if_icmp .ge off, n, x, y, z)) (hp : pc + 3 = pc') (ra : zi_r a) (rb : zi_r b) (kT : b ≤ a → zi_W E d j x ls st g R) (kF : a < b → zi_W E d j pc' ls st g R) : zi_W E d j pc ls (zi_i b :: zi_i a :: st) g R := by
  intro m hm
  subst hp
  exact sx_icmp ht ⟨fun hc => kT ((zi_le rb ra).mp hc) m hm, fun hc => kF ((Int.not_le.mp (fun e => hc ((zi_le rb ra).mpr e)))) m hm⟩
theorem zi_if_ge {off a : Int} {pc' : Nat} (ht : sx_tab j pc = some (.ifCond .ge off, n, x, y, z)) (hp : pc + 3 = pc') (ra : zi_r a) (kT : 0 ≤ a → zi_W E d j x ls st g R) (kF : a < 0 → zi_W E d j pc' ls st g R) : zi_W E d j pc ls (zi_i a :: st) g R := by
  intro m hm
  subst hp
  have rb := zi_r0
  refine sx_if ht ?_
  show sx_br2 .ge (Int32.ofInt a) 0 _ _
  rw [zi_z0]
  exact ⟨fun hc => kT ((zi_le rb ra).mp hc) m hm, fun hc => kF ((Int.not_le.mp (fun e => hc ((zi_le rb ra).mpr e)))) m hm⟩
theorem zi_icmp_gt {off a b : Int} {pc' : Nat} (ht : sx_tab j pc = some (.if_icmp .gt off, n, x, y, z)) (hp : pc + 3 = pc') (ra : zi_r a) (rb : zi_r b) (kT : b < a → zi_W E d j x ls st g R) (kF : a ≤ b → zi_W E d j pc' ls st g R) : zi_W E d j pc ls (zi_i b :: zi_i a :: st) g R := by
  intro m hm
  subst hp
  exact sx_icmp ht ⟨fun hc => kT ((zi_lt rb ra).mp hc) m hm, fun hc => kF ((Int.not_lt.mp (fun e => hc ((zi_lt rb ra).mpr e)))) m hm⟩
theorem zi_if_gt {off a : Int} {pc' : Nat} (ht : sx_tab j pc = some (.ifCond .gt off, n, x, y, z)) (hp : pc + 3 = pc') (ra : zi_r a) (kT : 0 < a → zi_W E d j x ls st g R) (kF : a ≤ 0 → zi_W E d j pc' ls st g R) : zi_W E d j pc ls (zi_i a :: st) g R := by
  intro m hm
  subst hp
  have rb := zi_r0
  refine sx_if ht ?_
  show sx_br2 .gt (Int32.ofInt a) 0 _ _
  rw [zi_z0]
  exact ⟨fun hc => kT ((zi_lt rb ra).mp hc) m hm, fun hc => kF ((Int.not_lt.mp (fun e => hc ((zi_lt rb ra).mpr e)))) m hm⟩
theorem zi_icmp_le {off a b : Int} {pc' : Nat} (ht : sx_tab j pc = some (.if_icmp .le off, n, x, y, z)) (hp : pc + 3 = pc') (ra : zi_r a) (rb : zi_r b) (kT : a ≤ b → zi_W E d j x ls st g R) (kF : b < a → zi_W E d j pc' ls st g R) : zi_W E d j pc ls (zi_i b :: zi_i a :: st) g R := by
  intro m hm
  subst hp
  exact sx_icmp ht ⟨fun hc => kT ((zi_le ra rb).mp hc) m hm, fun hc => kF ((Int.not_le.mp (fun e => hc ((zi_le ra rb).mpr e)))) m hm⟩
theorem zi_if_le {off a : Int} {pc' : Nat} (ht : sx_tab j pc = some (.ifCond .le off, n, x, y, z)) (hp : pc + 3 = pc') (ra : zi_r a) (kT : a ≤ 0 → zi_W E d j x ls st g R) (kF : 0 < a → zi_W E d j pc' ls st g R) : zi_W E d j pc ls (zi_i a :: st) g R := by
  intro m hm
  subst hp
  have rb := zi_r0
  refine sx_if ht ?_
  show sx_br2 .le (Int32.ofInt a) 0 _ _
  rw [zi_z0]
  exact ⟨fun hc => kT ((zi_le ra rb).mp hc) m hm, fun hc => kF ((Int.not_le.mp (fun e => hc ((zi_le ra rb).mpr e)))) m hm⟩
/-- the cases of a switch -/
noncomputable def zi_sw (v : Int) (k : Nat → Prop) : List (Int × Nat) → Prop
  | [] => True
  | q :: r => (v = q.1 → k q.2) ∧ zi_sw v k r
theorem zi_sw_at {v : Int} {k : Nat → Prop} : ∀ {l : List (Int × Nat)} {q : Int × Nat}, zi_sw v k l → q ∈ l → v = q.1 → k q.2
  | [], _, _, h, _ => by cases h
  | a :: l, q, h, hq, hv => by
    rcases List.mem_cons.mp hq with h1 | h1
    · subst h1; exact h.1 hv
    · exact zi_sw_at h.2 h1 hv
noncomputable def zi_swt (pc : Nat) (lo : Int) (offs : List Int) : List (Int × Nat) := match offs with
  | [] => []
  | o :: r => (lo, ((pc : Int) + o).toNat) :: zi_swt pc (lo + 1) r
theorem zi_swt_ok {v : Int32} {w : Int} (hw : v.toInt = w) {pc : Nat} {k : Nat → Prop} : ∀ (l : List Int) (lo : Int), zi_sw w k (zi_swt pc lo l) → sx_swT v pc k lo l
  | [], _, _ => trivial
  | o :: r, lo, h => ⟨fun e => h.1 (by rw [← hw]; exact e), zi_swt_ok hw r (lo + 1) h.2⟩
theorem zi_tsw {dflt lo hi v : Int} {offs : Array Int} (cs : List (Int × Nat)) (df : Nat) (ht : sx_tab j pc = some (.tableswitch dflt lo hi offs, n, x, y, z)) (hp : (decide (0 ≤ (pc : Int) + dflt) && ((offs.toList.all fun o => decide (0 ≤ (pc : Int) + o)) && (Nat.beq offs.size (hi - lo + 1).toNat && (decide (zi_swt pc lo offs.toList = cs) && Nat.beq ((pc : Int) + dflt).toNat df)))) = true) (rv : zi_r v) (k1 : v < lo ∨ hi < v → zi_W E d j df ls st g R) (k2 : zi_sw v (fun t => zi_W E d j t ls st g R) cs) : zi_W E d j pc ls (zi_i v :: st) g R := by
  intro m hm
  simp only [Bool.and_eq_true, decide_eq_true_eq] at hp
  obtain ⟨h1, h2, h3, h4, h5⟩ := hp
  have e5 := Nat.eq_of_beq_eq_true h5
  have ev := zi_to rv
  have sub : ∀ {l : List (Int × Nat)}, zi_sw v (fun t => zi_W E d j t ls st g R) l → zi_sw v (fun t => sx_W E d 0 0 j t ls st m R) l := by
    intro l
    induction l with
    | nil => exact fun _ => trivial
    | cons q r ih => exact fun h => ⟨fun e => h.1 e m hm, ih h.2⟩
  refine sx_tsw ht ⟨h1, h2, Nat.eq_of_beq_eq_true h3⟩ (fun hv => ?_) (zi_swt_ok ev _ _ ?_)
  · rw [ev] at hv
    rw [e5]
    exact k1 hv m hm
  · rw [h4]
    exact sub k2
noncomputable def zi_swl (pc : Nat) (l : List (Int × Int)) : List (Int × Nat) := match l with
  | [] => []
  | o :: r => (o.1, ((pc : Int) + o.2).toNat) :: zi_swl pc r
theorem zi_swl_ok {v : Int32} {w : Int} (hw : v.toInt = w) {pc : Nat} {dflt : Int} {k : Nat → Prop} : ∀ (l : List (Int × Int)), zi_sw w k (zi_swl pc l) → ((∀ q ∈ l, w ≠ q.1) → k ((pc : Int) + dflt).toNat) → sx_swL v pc k dflt l
  | [], _, hd => hd (fun q hq => by cases hq)
  | o :: r, h, hd => ⟨fun e => h.1 (by rw [← hw]; exact e), fun e => zi_swl_ok hw r h.2 (fun hr => hd (fun q hq => by
      rcases List.mem_cons.mp hq with h1 | h1
      · subst h1; rw [← hw]; exact e
      · exact hr q h1))⟩
theorem zi_lsw {dflt v : Int} {ps : Array (Int × Int)} (cs : List (Int × Nat)) (df : Nat) (ht : sx_tab j pc = some (.lookupswitch dflt ps, n, x, y, z)) (hp : (decide (0 ≤ (pc : Int) + dflt) && ((ps.toList.all fun o => decide (0 ≤ (pc : Int) + o.2)) && (decide (zi_swl pc ps.toList = cs) && Nat.beq ((pc : Int) + dflt).toNat df))) = true) (rv : zi_r v) (k1 : (∀ q ∈ ps.toList, v ≠ q.1) → zi_W E d j df ls st g R) (k2 : zi_sw v (fun t => zi_W E d j t ls st g R) cs) : zi_W E d j pc ls (zi_i v :: st) g R := by
  intro m hm
  simp only [Bool.and_eq_true, decide_eq_true_eq] at hp
  obtain ⟨h1, h2, h4, h5⟩ := hp
  have e5 := Nat.eq_of_beq_eq_true h5
  have ev := zi_to rv
  have sub : ∀ {l : List (Int × Nat)}, zi_sw v (fun t => zi_W E d j t ls st g R) l → zi_sw v (fun t => sx_W E d 0 0 j t ls st m R) l := by
    intro l
    induction l with
    | nil => exact fun _ => trivial
    | cons q r ih => exact fun h => ⟨fun e => h.1 e m hm, ih h.2⟩
  refine sx_lsw ht ⟨h1, h2⟩ (zi_swl_ok ev _ ?_ (fun hv => ?_))
  · rw [h4]
    exact sub k2
  · rw [e5]
    exact k1 hv m hm
-- calls
noncomputable def zi_cV (x k : Nat) (rest : List Value) : Bool := Nat.beq (sx_kd x) 1 && (Nat.ble (x + 1) 9996 && (Nat.beq k (sx_na x) && (Nat.ble (sx_oc x + 1) 13 && Nat.ble (sx_cat rest) 8)))
noncomputable def zi_cS (x k : Nat) (rest : List Value) : Bool := Nat.beq (sx_kd x) 0 && (Nat.ble (x + 1) 9996 && (Nat.beq k (sx_na x) && Nat.ble (sx_cat rest) 8))
theorem zi_callV {i a N d' : Nat} {as : List Value} {Q' : Option Value → sx_M → Prop} {pc' : Nat} (ht : sx_tab j pc = some (.invokevirtual i, n, x, y, z)) (hp : pc + 3 = pc') (hc : zi_cV x as.length st = true) (hs : zs_sh a = some (sx_oc x, N)) (hd : d' < d) (hS : zi_S E d' x (.ref a :: as) g Q') (k : ∀ v m', Q' v m' → sx_W E d 0 0 j pc' ls (v.toList ++ st) m' R) : zi_W E d j pc ls (as.reverse ++ .ref a :: st) g R := by
  intro m hm
  subst hp
  simp only [zi_cV, Bool.and_eq_true] at hc
  obtain ⟨c1, c2, c3, c4, c5⟩ := hc
  exact sx_callV ht (Nat.eq_of_beq_eq_true c1) (Nat.le_of_ble_eq_true c2) (Nat.eq_of_beq_eq_true c3) (Nat.le_of_ble_eq_true c4) (hm.2.1 a _ hs) (by rw [sx_cat_eq]; exact Nat.le_of_ble_eq_true c5) hd (Nat.le_refl 0) (Nat.le_refl 0) (hS m hm) k
theorem zi_callS {i d' : Nat} {as : List Value} {Q' : Option Value → sx_M → Prop} {pc' : Nat} (ht : sx_tab j pc = some (.invokestatic i, n, x, y, z)) (hp : pc + 3 = pc') (hc : zi_cS x as.length st = true) (hd : d' < d) (hS : zi_S E d' x as g Q') (k : ∀ v m', Q' v m' → sx_W E d 0 0 j pc' ls (v.toList ++ st) m' R) : zi_W E d j pc ls (as.reverse ++ st) g R := by
  intro m hm
  subst hp
  simp only [zi_cS, Bool.and_eq_true] at hc
  obtain ⟨c1, c2, c3, c5⟩ := hc
  exact sx_callS ht (Nat.eq_of_beq_eq_true c1) (Nat.le_of_ble_eq_true c2) (Nat.eq_of_beq_eq_true c3) (by rw [sx_cat_eq]; exact Nat.le_of_ble_eq_true c5) hd (Nat.le_refl 0) (Nat.le_refl 0) (hS m hm) k
theorem zi_ki {Q : Int → zi_M → Prop} {pc' : Nat} (k : ∀ v g', Q v g' → zi_W E d j pc' ls (zi_i v :: st) g' R) : ∀ v m', zi_Q Q v m' → sx_W E d 0 0 j pc' ls (v.toList ++ st) m' R := by
  rintro v m' ⟨r, g', rfl, hm, hq⟩
  exact k r g' hq m' hm
theorem zi_kb {Q : Int → zi_M → Prop} {pc' : Nat} (k : ∀ v g', (v = 0 ∨ v = 1) → Q v g' → zi_W E d j pc' ls (zi_i v :: st) g' R) : ∀ v m', zi_Qb Q v m' → sx_W E d 0 0 j pc' ls (v.toList ++ st) m' R := by
  rintro v m' ⟨r, g', rfl, hm, hb, hq⟩
  exact k r g' hb hq m' hm
theorem zi_kv {Q : Int → zi_M → Prop} {pc' : Nat} (k : ∀ g', Q 0 g' → zi_W E d j pc' ls st g' R) : ∀ v m', zi_Qv Q v m' → sx_W E d 0 0 j pc' ls (v.toList ++ st) m' R := by
  rintro v m' ⟨g', rfl, hm, hq⟩
  exact k g' hq m' hm
theorem zi_iret {Q : Int → zi_M → Prop} {v : Int} (ht : sx_tab j pc = some (.ireturn, n, x, y, z)) (hrt : sx_rt j = some .int) (hq : Q v g) : zi_W E d j pc ls [zi_i v] g (zi_Q Q) :=
  fun m hm => sx_iret ht (Or.inl hrt) ⟨v, g, rfl, hm, hq⟩
theorem zi_zret {Q : Int → zi_M → Prop} {v : Int} (ht : sx_tab j pc = some (.ireturn, n, x, y, z)) (hrt : sx_rt j = some .boolean) (hv : v = 0 ∨ v = 1) (hq : Q v g) : zi_W E d j pc ls [zi_i v] g (zi_Qb Q) := by
  intro m hm
  refine sx_iret ht (Or.inr ⟨hrt, ?_⟩) ⟨v, g, rfl, hm, hv, hq⟩
  rcases hv with h | h <;> subst h
  · exact Or.inl rfl
  · exact Or.inr rfl
theorem zi_vret {Q : Int → zi_M → Prop} (ht : sx_tab j pc = some (.return_, n, x, y, z)) (hrt : sx_rt j = none) (hq : Q 0 g) : zi_W E d j pc ls [] g (zi_Qv Q) :=
  fun m hm => sx_vret ht hrt ⟨g, rfl, hm, hq⟩
noncomputable def zi_pad : List (Option Value) → List (Option Value) → Prop
  | [], [] => True
  | none :: l, [] => zi_pad l []
  | none :: l, _ :: k => zi_pad l k
  | some v :: l, some w :: k => v = w ∧ zi_pad l k
  | _, _ => False
theorem zi_pad_nth : ∀ {l k : List (Option Value)}, zi_pad l k → ∀ i v, sx_nth l i = some v → sx_nth k i = some v
  | [], [], _, i, v, h => h
  | none :: l, [], hs, 0, v, h => by simp [sx_nth] at h
  | none :: l, [], hs, i + 1, v, h => by
    have := zi_pad_nth (l := l) (k := []) hs i v h
    simp [sx_nth] at this
  | none :: l, _ :: k, hs, 0, v, h => by simp [sx_nth] at h
  | none :: l, _ :: k, hs, i + 1, v, h => zi_pad_nth (l := l) (k := k) hs i v h
  | some a :: l, some w :: k, hs, 0, v, h => by
    have e : a = w := hs.1
    subst e
    exact h
  | some a :: l, some w :: k, hs, i + 1, v, h => zi_pad_nth (l := l) (k := k) hs.2 i v h
  | [], _ :: _, h, _, _, _ => h.elim
  | some _ :: _, none :: _, h, _, _, _ => h.elim
  | some _ :: _, [], h, _, _, _ => h.elim
theorem zi_Sof {as : List Value} (hm : sx_mf j) (ls' : List (Option Value)) (hl : (Nat.ble (sx_ent as).length (sx_L j) && Nat.ble ls'.length (sx_L j)) = true) (hs : zi_pad ls' (sx_ent as)) (h : zi_W E d j 0 ls' [] g R) : zi_S E d j as g R := by
  intro m hmm
  simp only [Bool.and_eq_true] at hl
  refine sx_S.of hm (Nat.le_of_ble_eq_true hl.1) ?_
  intro p e s mi args below meth c H locs cells slots KC KS A hx hb hml hr hlk hin hown hts hok hK hR hlo hfr hcl hsl
  exact h m hmm p e s mi args below meth c H locs cells slots KC KS A hx hb hml hr hlk hin hown hts hok hK hR ⟨hlo.1, hlo.2.1, Nat.le_of_ble_eq_true hl.2, fun i v hv => hlo.2.2.2 i v (zi_pad_nth hs i v hv)⟩ hfr hcl hsl
theorem zi_max {i : Nat} {a b : Int} {pc' : Nat} (ht : sx_tab j pc = some (.invokestatic i, n, 9996, y, z)) (hp : pc + 3 = pc') (ra : zi_r a) (rb : zi_r b) (hd : 1 ≤ d) (hc : Nat.ble (sx_cat st) 8 = true) (k : zi_W E d j pc' ls (zi_i (max a b) :: st) g R) : zi_W E d j pc ls (zi_i b :: zi_i a :: st) g R := by
  intro m hm
  subst hp
  refine sx_mmax ht hd (by rw [sx_cat_eq]; exact Nat.le_of_ble_eq_true hc) ?_
  have h3 := k m hm
  have e : (if Int32.ofInt a < Int32.ofInt b then Int32.ofInt b else Int32.ofInt a) = Int32.ofInt (max a b) := by
    by_cases h : a < b
    · rw [if_pos ((zi_lt ra rb).mpr h), Int.max_def, if_pos (Int.le_of_lt h)]
    · rw [if_neg (fun e => h ((zi_lt ra rb).mp e))]
      congr 1
      omega
  rw [e]
  exact h3
theorem zi_min {i : Nat} {a b : Int} {pc' : Nat} (ht : sx_tab j pc = some (.invokestatic i, n, 9997, y, z)) (hp : pc + 3 = pc') (ra : zi_r a) (rb : zi_r b) (hd : 1 ≤ d) (hc : Nat.ble (sx_cat st) 8 = true) (k : zi_W E d j pc' ls (zi_i (min a b) :: st) g R) : zi_W E d j pc ls (zi_i b :: zi_i a :: st) g R := by
  intro m hm
  subst hp
  refine sx_mmin ht hd (by rw [sx_cat_eq]; exact Nat.le_of_ble_eq_true hc) ?_
  have h3 := k m hm
  have e : (if Int32.ofInt b < Int32.ofInt a then Int32.ofInt b else Int32.ofInt a) = Int32.ofInt (min a b) := by
    by_cases h : b < a
    · rw [if_pos ((zi_lt rb ra).mpr h)]
      congr 1
      omega
    · rw [if_neg (fun e => h ((zi_lt rb ra).mp e))]
      congr 1
      omega
  rw [e]
  exact h3
theorem zi_nn {i : Int} (h : 0 ≤ i ∧ i ≤ 2300) : ¬ Int32.ofInt i < 0 ∧ (Int32.ofInt i).toNatClampNeg = i.toNat := by
  have h1 := zi_idx (i := i) (N := i.toNat + 1) ⟨h.1, by omega⟩
  have e : (Int32.ofInt i).toInt = i := zi_to ⟨by omega, by omega⟩
  refine ⟨fun hx => ?_, by show (Int32.ofInt i).toInt.toNat = _; rw [e]⟩
  have := Int32.lt_iff_toInt_lt.mp hx
  rw [e, show (0 : Int32).toInt = 0 from rfl] at this
  omega
theorem zi_copy {i a a0 N N0 : Nat} {sp dp w : Int} {pc' : Nat} (ht : sx_tab j pc = some (.invokestatic i, n, 9998, y, z)) (hp : pc + 3 = pc') (hd : 1 ≤ d) (hc : Nat.ble (sx_cat st) 8 = true) (hs0 : zs_sh a0 = some (13, N0)) (hs : zs_sh a = some (13, N)) (hi : (0 ≤ sp ∧ 0 ≤ dp ∧ 0 ≤ w) ∧ sp + w ≤ (N0 : Int) ∧ dp + w ≤ (N : Int)) (k : zi_W E d j pc' ls st (zi_cp g a0 sp a dp w) R) : zi_W E d j pc ls (zi_i w :: zi_i dp :: .ref a :: zi_i sp :: .ref a0 :: st) g R := by
  intro m hm
  subst hp
  obtain ⟨⟨p1, p2, p3⟩, p4, p5⟩ := hi
  have l0 := (zs_lt hs0).2
  have l1 := (zs_lt hs).2
  have n1 := zi_nn (i := sp) ⟨p1, by have : (N0 : Int) ≤ 2300 := by (have := l0; omega)
                                     omega⟩
  have n2 := zi_nn (i := dp) ⟨p2, by have : (N : Int) ≤ 2300 := by (have := l1; omega)
                                     omega⟩
  have n3 := zi_nn (i := w) ⟨p3, by have : (N : Int) ≤ 2300 := by (have := l1; omega)
                                    omega⟩
  refine sx_copy ht hd (hm.2.1 a0 _ hs0) (hm.2.1 a _ hs) n1.1 n2.1 n3.1 (by rw [n1.2, n3.2]; omega) (by rw [n2.2, n3.2]; omega) (by rw [sx_cat_eq]; exact Nat.le_of_ble_eq_true hc) (k _ ?_)
  refine ⟨hm.1, hm.2.1, hm.2.2.1, fun b kd2 q hb hq => ?_⟩
  show sx_ua m.2.2.1 a _ b q = _
  by_cases hba : b = a
  · subst hba
    rw [sx_ua_eq]
    have ekd : kd2 = (13, N) := Option.some.inj (hb.symm.trans hs)
    subst ekd
    unfold va_cpy zi_cp
    rw [n1.2, n2.2, n3.2]
    by_cases hr : dp ≤ (q : Int) ∧ (q : Int) < dp + w
    · rw [if_pos (by omega), if_pos ⟨rfl, hr⟩, hm.2.2.2 a0 _ _ hs0 (by show _ < N0; omega)]
      congr 2
      omega
    · rw [if_neg (by omega), if_neg (fun e => hr e.2)]
      exact hm.2.2.2 b _ q hb hq
  · rw [sx_ua_ne hba]
    unfold zi_cp
    rw [if_neg (fun e => hba e.1)]
    exact hm.2.2.2 b kd2 q hb hq
end
