/-! ===== INV: ranges and groups of the cells ===== -/
def gnm (o : Int) : Int := if o < 162 then o else if o < 170 then o - 147 else if o < 174 then o else if o < 190 then o - 143 else if o < 206 then o else o - 205
def gRc6 (k : Int) : Int × Int := if k = 0 then (0, 1) else if k = 1 then (-3000, 300) else if k = 2 then (0, 5) else if k = 3 then (-1, 15) else if k = 4 then (0, 9) else if k = 5 then (0, 8) else if k = 6 then (-2147483648, 2147483647) else if k = 7 then (-2147483648, 2147483647) else if k = 8 then (-1, 3) else if k = 9 then (-1, 3) else if k = 10 then (-1, 5) else if k = 11 then (0, 8) else if k = 12 then (-2147483648, 2147483647) else if k = 13 then (-2147483648, 2147483647) else if k = 14 then (0, 1) else if k = 15 then (-2147483648, 2147483647) else (-2147483648, 2147483647)
def gRc8 (k : Int) : Int × Int := if k = 0 then (0, 4) else if k = 1 then (0, 15) else if k = 2 then (0, 15) else if k = 3 then (0, 9999) else if k = 4 then (-3000, 300) else if k = 5 then (0, 1) else if k = 6 then (0, 80) else if k = 7 then (-1, 80) else if k = 8 then (0, 1) else (-2147483648, 2147483647)
def gRc0 (n sh k : Int) : Int × Int := if k < 0 then (0, 0) else if k < 5 then (n + k + 2 + sh, n + k + 2 + sh) else if k = 5 then (0, 150) else if k = 6 then (0, 300) else if k = 7 then (0, 8) else (-2147483648, 2147483647)
def gRs0 (sh k : Int) : Int × Int := if k = 0 then (2 + sh, 2 + sh) else if k = 1 then (154 + sh, 154 + sh) else if k = 2 then (160 + sh, 160 + sh) else if k = 3 then (162 + sh, 162 + sh) else if k = 4 then (163 + sh, 163 + sh) else if k = 5 then (171 + sh, 171 + sh) else if k = 6 then (172 + sh, 172 + sh) else if k = 7 then (173 + sh, 173 + sh) else if k = 8 then (174 + sh, 174 + sh) else if k = 9 then (0, 207) else (-2147483648, 2147483647)
def gRs1 (sh k : Int) : Int × Int := if k = 0 then (3 + sh, 3 + sh) else if k = 1 then (6 + sh, 6 + sh) else if k = 2 then (7 + sh, 7 + sh) else if k = 3 then (8 + sh, 8 + sh) else if k = 4 then (9 + sh, 9 + sh) else if k = 5 then (10 + sh, 10 + sh) else if k = 6 then (16 + sh, 16 + sh) else if k = 7 then (24 + sh, 24 + sh) else if k = 8 then (27 + sh, 27 + sh) else if k = 9 then (31 + sh, 31 + sh) else if k = 10 then (0, 16) else if k = 11 then (0, 40) else if k = 12 then (0, 80) else if k = 13 then (0, 11) else if k = 14 then (0, 150) else if k = 15 then (0, 300) else (-2147483648, 2147483647)
def gRs2 (sh k : Int) : Int × Int := if k = 0 then (4 + sh, 4 + sh) else if k = 1 then (5 + sh, 5 + sh) else (-2147483648, 2147483647)
def gRs9 (sh k : Int) : Int × Int := if k = 0 then (11 + sh, 11 + sh) else if k = 1 then (12 + sh, 12 + sh) else if k = 2 then (13 + sh, 13 + sh) else if k = 3 then (14 + sh, 14 + sh) else if k = 4 then (15 + sh, 15 + sh) else if k = 5 then (0, 20) else (-2147483648, 2147483647)
def gRs15 (sh k : Int) : Int × Int := if k = 0 then (17 + sh, 17 + sh) else if k = 1 then (18 + sh, 18 + sh) else if k = 2 then (19 + sh, 19 + sh) else if k = 3 then (20 + sh, 20 + sh) else if k = 4 then (21 + sh, 21 + sh) else if k = 5 then (22 + sh, 22 + sh) else if k = 6 then (23 + sh, 23 + sh) else if k = 7 then (0, 6) else if k = 8 then (-2147483648, 2147483647) else if k = 9 then (-2147483648, 2147483647) else (-2147483648, 2147483647)
def gRs23 (sh k : Int) : Int × Int := if k = 0 then (25 + sh, 25 + sh) else if k = 1 then (26 + sh, 26 + sh) else (-2147483648, 2147483647)
def gRs26 (sh k : Int) : Int × Int := if k = 0 then (28 + sh, 28 + sh) else if k = 1 then (29 + sh, 29 + sh) else if k = 2 then (30 + sh, 30 + sh) else if k = 3 then (0, 40) else (-2147483648, 2147483647)
def gRs153 (sh k : Int) : Int × Int := if k = 0 then (155 + sh, 155 + sh) else if k = 1 then (156 + sh, 156 + sh) else if k = 2 then (157 + sh, 157 + sh) else if k = 3 then (158 + sh, 158 + sh) else if k = 4 then (159 + sh, 159 + sh) else if k = 5 then (0, 10) else if k = 6 then (0, 1) else if k = 7 then (-2147483648, 2147483647) else (-2147483648, 2147483647)
def gRs159 (sh k : Int) : Int × Int := if k = 0 then (0, 400) else if k = 1 then (0, 150) else if k = 2 then (0, 150) else if k = 3 then (0, 6) else if k = 4 then (-2147483648, 2147483647) else (-2147483648, 2147483647)
def gRs190 (sh k : Int) : Int × Int := if k = 0 then (-2147483648, 2147483647) else if k = 1 then (192 + sh, 192 + sh) else if k = 2 then (193 + sh, 193 + sh) else if k = 3 then (194 + sh, 194 + sh) else if k = 4 then (0, 1) else if k = 5 then (195 + sh, 195 + sh) else if k = 6 then (196 + sh, 196 + sh) else if k = 7 then (197 + sh, 197 + sh) else if k = 8 then (0, 40) else if k = 9 then (198 + sh, 198 + sh) else if k = 10 then (199 + sh, 199 + sh) else if k = 11 then (0, 10) else if k = 12 then (-1, 150) else if k = 13 then (0, 1) else if k = 14 then (0, 7) else if k = 15 then (-1, 15) else if k = 16 then (200 + sh, 200 + sh) else if k = 17 then (201 + sh, 201 + sh) else if k = 18 then (202 + sh, 202 + sh) else if k = 19 then (-2147483648, 2147483647) else if k = 20 then (203 + sh, 203 + sh) else if k = 21 then (204 + sh, 204 + sh) else if k = 22 then (205 + sh, 205 + sh) else if k = 23 then (206 + sh, 206 + sh) else (-2147483648, 2147483647)
def gRsg (k : Int) : Int × Int := (if k < 416 then (if k < 64 then (if k < 7 then (if k < 3 then (if k < 1 then (0, 300) else (if k < 2 then (0, 16) else (0, 40))) else (if k < 5 then (if k < 4 then (0, 80) else (0, 11)) else (if k < 6 then (0, 20) else (0, 40)))) else (if k < 10 then (if k < 8 then (0, 6) else (if k < 9 then (-2147483648, 2147483647) else (-2147483648, 2147483647))) else (if k < 24 then (if k < 16 then (0, 150) else (-2147483648, 2147483647)) else (if k < 60 then (0, 99) else (-2147483648, 2147483647))))) else (if k < 176 then (if k < 112 then (if k < 80 then (-2147483648, 2147483647) else (if k < 96 then (0, 1) else (-3000, 300))) else (if k < 144 then (if k < 128 then (0, 5) else (-1, 15)) else (if k < 160 then (-2147483648, 2147483647) else (-1, 8)))) else (if k < 256 then (if k < 224 then (if k < 208 then (-2147483648, 2147483647) else (-60, 9999)) else (if k < 240 then (-1, 3) else (-1, 5))) else (if k < 336 then (if k < 296 then (0, 4) else (0, 15)) else (if k < 376 then (0, 15) else (0, 9999)))))) else (if k < 2520 then (if k < 2340 then (if k < 576 then (if k < 456 then (-3000, 300) else (if k < 496 then (-2147483648, 2147483647) else (-2147483648, 2147483647))) else (if k < 668 then (if k < 656 then (0, 39) else (0, 300)) else (if k < 680 then (0, 150) else (0, 255)))) else (if k < 2400 then (if k < 2360 then (0, 15) else (if k < 2380 then (-1, 5) else (0, 5))) else (if k < 2440 then (if k < 2420 then (0, 300) else (-2147483648, 2147483647)) else (if k < 2480 then (0, 7) else (0, 5))))) else (if k < 2800 then (if k < 2580 then (if k < 2560 then (0, 300) else (if k < 2566 then (0, 4) else (-2147483648, 2147483647))) else (if k < 2620 then (if k < 2584 then (0, 10) else (-2147483648, 2147483647)) else (if k < 2770 then (0, 255) else (-2147483648, 2147483647)))) else (if k < 24720 then (if k < 5400 then (if k < 3200 then (-2147483648, 2147483647) else (-2147483648, 2147483647)) else (if k < 24700 then (-2147483648, 2147483647) else (0, 8))) else (if k < 24900 then (if k < 24810 then (0, 9) else (-60, 9999)) else (if k < 25000 then (-1, 150) else (0, 16)))))))
def gRl (n sh k : Int) : Int × Int := if n = 0 then gRs0 sh k else if n = 1 then gRs1 sh k else if n = 2 then gRs2 sh k else if n = 3 then (0, 9999) else if n = 4 then (0, 99) else if n = 5 then (if k < 0 then (0, 0) else if k < 16 then (32 + k + sh, 32 + k + sh) else (0, 0)) else if n = 6 then (if k < 0 then (0, 0) else if k < 40 then (48 + k + sh, 48 + k + sh) else (0, 0)) else if n = 7 then (if k < 0 then (0, 0) else if k < 11 then (88 + 6 * k + sh, 88 + 6 * k + sh) else (0, 0)) else if n = 8 then (-128, 127) else if n = 9 then gRs9 sh k else if n = 10 then (0, 15) else if n = 11 then (0, 5) else if n = 12 then (0, 5) else if n = 13 then (0, 300) else if n = 14 then (0, 1) else if n = 15 then gRs15 sh k else if n = 16 then (-2147483648, 2147483647) else if n = 17 then (-2147483648, 2147483647) else if n = 18 then (0, 10) else if n = 19 then (-2147483648, 2147483647) else if n = 20 then (0, 4) else if n = 21 then (-2147483648, 2147483647) else if n = 22 then (-2147483648, 2147483647) else if n = 23 then gRs23 sh k else if n = 24 then (-2147483648, 2147483647) else if n = 25 then (-9223372036854775808, 9223372036854775807) else if n = 26 then gRs26 sh k else if n = 27 then (0, 7) else if n = 28 then (0, 5) else if n = 29 then (0, 300) else (-2147483648, 2147483647)
def gRh (n sh k : Int) : Int × Int := if n = 153 then gRs153 sh k else if n = 154 then (-2147483648, 2147483647) else if n = 155 then (0, 1) else if n = 156 then (0, 39) else if n = 157 then (-2147483648, 2147483647) else if n = 158 then (-2147483648, 2147483647) else if n = 159 then gRs159 sh k else if n = 160 then (-128, 127) else if n = 161 then (if k < 0 then (0, 0) else if k < 16 then (175 + k, 175 + k) else (0, 0)) else if n = 170 then (-9223372036854775808, 9223372036854775807) else if n = 171 then (-9223372036854775808, 9223372036854775807) else if n = 172 then (-2147483648, 2147483647) else if n = 173 then (-9223372036854775808, 9223372036854775807) else if n = 190 then gRs190 sh k else if n = 191 then gRsg k else if n = 192 then gRsg k else if n = 193 then gRsg k else if n = 194 then (0, 99) else if n = 195 then (-2147483648, 2147483647) else if n = 196 then (0, 39) else if n = 197 then (0, 1) else if n = 198 then (0, 39) else if n = 199 then (-2147483648, 2147483647) else if n = 200 then (-2147483648, 2147483647) else if n = 201 then (-2147483648, 2147483647) else if n = 202 then (-9223372036854775808, 9223372036854775807) else if n = 203 then (-9223372036854775808, 9223372036854775807) else if n = 204 then (-2147483648, 2147483647) else (-9223372036854775808, 9223372036854775807)
def gRA (j n sh k : Int) : Int × Int := if j = 0 then gRc0 n sh k else if j = 1 then (-128, 127) else if j = 2 then (-2147483648, 2147483647) else if j = 3 then (0, 9) else if j = 4 then (-2147483648, 2147483647) else (0, 150)
def gRn (n sh k : Int) : Int × Int := if n < 31 then gRl n sh k else if n < 47 then gRc6 k else if n < 87 then gRc8 k else if n < 153 then gRA ((n - 87) % 6) n sh k else gRh n sh k
def gRg (o k : Int) : Int × Int := gRn (gnm o) (o - gnm o) k
def gGc6 (k : Int) : Nat := if k = 0 then 3 else if k = 1 then 3 else if k = 2 then 3 else if k = 3 then 3 else if k = 4 then 3 else if k = 5 then 4 else if k = 6 then 4 else if k = 7 then 4 else if k = 8 then 4 else if k = 9 then 4 else if k = 10 then 4 else if k = 11 then 5 else if k = 12 then 6 else if k = 13 then 6 else if k = 14 then 6 else 6
def gGc8 (k : Int) : Nat := if k = 0 then 7 else if k = 1 then 7 else if k = 2 then 7 else if k = 3 then 7 else if k = 4 then 7 else if k = 5 then 7 else if k = 6 then 7 else if k = 7 then 7 else 7
def gGc0 (k : Int) : Nat := if k = 0 then 0 else if k = 1 then 0 else if k = 2 then 0 else if k = 3 then 0 else if k = 4 then 0 else if k = 5 then 8 else if k = 6 then 8 else 8
def gGs0 (k : Int) : Nat := if k = 0 then 0 else if k = 1 then 0 else if k = 2 then 0 else if k = 3 then 0 else if k = 4 then 0 else if k = 5 then 0 else if k = 6 then 0 else if k = 7 then 0 else if k = 8 then 0 else 34
def gGs1 (k : Int) : Nat := if k = 0 then 0 else if k = 1 then 0 else if k = 2 then 0 else if k = 3 then 0 else if k = 4 then 0 else if k = 5 then 0 else if k = 6 then 0 else if k = 7 then 0 else if k = 8 then 0 else if k = 9 then 0 else if k = 10 then 20 else if k = 11 then 21 else if k = 12 then 90 else if k = 13 then 22 else if k = 14 then 23 else 24
def gGs2 (k : Int) : Nat := if k = 0 then 0 else 0
def gGs9 (k : Int) : Nat := if k = 0 then 0 else if k = 1 then 0 else if k = 2 then 0 else if k = 3 then 0 else if k = 4 then 0 else 10
def gGs15 (k : Int) : Nat := if k = 0 then 0 else if k = 1 then 0 else if k = 2 then 0 else if k = 3 then 0 else if k = 4 then 0 else if k = 5 then 0 else if k = 6 then 0 else if k = 7 then 14 else if k = 8 then 11 else 15
def gGs23 (k : Int) : Nat := if k = 0 then 0 else 0
def gGs26 (k : Int) : Nat := if k = 0 then 0 else if k = 1 then 0 else if k = 2 then 0 else 18
def gGs153 (k : Int) : Nat := if k = 0 then 0 else if k = 1 then 0 else if k = 2 then 0 else if k = 3 then 0 else if k = 4 then 0 else if k = 5 then 25 else if k = 6 then 25 else 25
def gGs159 (k : Int) : Nat := if k = 0 then 27 else if k = 1 then 28 else if k = 2 then 29 else if k = 3 then 26 else 26
def gGs190 (k : Int) : Nat := if k = 0 then 74 else if k = 1 then 72 else if k = 2 then 72 else if k = 3 then 72 else if k = 4 then 73 else if k = 5 then 72 else if k = 6 then 72 else if k = 7 then 72 else if k = 8 then 66 else if k = 9 then 72 else if k = 10 then 72 else if k = 11 then 68 else if k = 12 then 67 else if k = 13 then 67 else if k = 14 then 70 else if k = 15 then 71 else if k = 16 then 72 else if k = 17 then 72 else if k = 18 then 72 else if k = 19 then 69 else if k = 20 then 72 else if k = 21 then 72 else if k = 22 then 72 else 72
def gGsg (k : Int) : Nat := (if k < 416 then (if k < 64 then (if k < 7 then (if k < 3 then (if k < 1 then 35 else (if k < 2 then 36 else 37)) else (if k < 5 then (if k < 4 then 88 else 38) else (if k < 6 then 39 else 40))) else (if k < 10 then (if k < 8 then 41 else (if k < 9 then 42 else 43)) else (if k < 24 then (if k < 16 then 44 else 45) else (if k < 60 then 46 else 47)))) else (if k < 176 then (if k < 112 then (if k < 80 then 48 else (if k < 96 then 49 else 49)) else (if k < 144 then (if k < 128 then 49 else 49) else (if k < 160 then 49 else 50))) else (if k < 256 then (if k < 224 then (if k < 208 then 50 else 50) else (if k < 240 then 50 else 50)) else (if k < 336 then (if k < 296 then 51 else 51) else (if k < 376 then 51 else 51))))) else (if k < 2520 then (if k < 2340 then (if k < 576 then (if k < 456 then 51 else (if k < 496 then 51 else 87)) else (if k < 668 then (if k < 656 then 87 else 52) else (if k < 680 then 52 else 52))) else (if k < 2400 then (if k < 2360 then 53 else (if k < 2380 then 53 else 53)) else (if k < 2440 then (if k < 2420 then 53 else 89) else (if k < 2480 then 54 else 54)))) else (if k < 2800 then (if k < 2580 then (if k < 2560 then 54 else (if k < 2566 then 55 else 55)) else (if k < 2620 then (if k < 2584 then 56 else 56) else (if k < 2770 then 57 else 58))) else (if k < 24720 then (if k < 5400 then (if k < 3200 then 59 else 60) else (if k < 24700 then 62 else 52)) else (if k < 24900 then (if k < 24810 then 52 else 52) else (if k < 25000 then 52 else 61))))))
def gGl (n k : Int) : Nat := if n = 0 then gGs0 k else if n = 1 then gGs1 k else if n = 2 then gGs2 k else if n = 3 then 1 else if n = 4 then 2 else if n = 5 then 0 else if n = 6 then 0 else if n = 7 then 0 else if n = 8 then 9 else if n = 9 then gGs9 k else if n = 10 then 10 else if n = 11 then 10 else if n = 12 then 10 else if n = 13 then 10 else if n = 14 then 10 else if n = 15 then gGs15 k else if n = 16 then 11 else if n = 17 then 12 else if n = 18 then 13 else if n = 19 then 13 else if n = 20 then 14 else if n = 21 then 14 else if n = 22 then 14 else if n = 23 then gGs23 k else if n = 24 then 16 else if n = 25 then 16 else if n = 26 then gGs26 k else if n = 27 then 17 else if n = 28 then 17 else if n = 29 then 17 else 19
def gGh (n k : Int) : Nat := if n = 153 then gGs153 k else if n = 154 then 25 else if n = 155 then 25 else if n = 156 then 25 else if n = 157 then 25 else if n = 158 then 25 else if n = 159 then gGs159 k else if n = 160 then 26 else if n = 161 then 0 else if n = 170 then 32 else if n = 171 then 32 else if n = 172 then 32 else if n = 173 then 32 else if n = 190 then gGs190 k else if n = 191 then gGsg k else if n = 192 then 63 else if n = 193 then 64 else if n = 194 then 65 else if n = 195 then 91 else if n = 196 then 65 else if n = 197 then 65 else if n = 198 then 65 else if n = 199 then 65 else if n = 200 then 65 else if n = 201 then 65 else if n = 202 then 65 else if n = 203 then 65 else if n = 204 then 65 else 65
def gGn (n k : Int) : Nat := if n < 31 then gGl n k else if n < 47 then gGc6 k else if n < 87 then gGc8 k else if n < 153 then (if (n - 87) % 6 = 0 then gGc0 k else 8) else gGh n k
def gGi (o : Int) : Nat := (if o < 228 then (if o < 213 then (if o < 207 then 75 else (if o < 210 then 76 else 77)) else (if o < 214 then 78 else (if o < 220 then 79 else 80))) else (if o < 236 then (if o < 231 then 81 else (if o < 235 then 82 else 83)) else (if o < 252 then 84 else (if o < 292 then 85 else 86))))
def gG (o k : Int) : Nat := if o < 162 then gGn o k else if o < 170 then 31 else if o < 174 then gGn o k else if o < 190 then 30 else if o < 206 then gGn o k else gGi o
def gCr (o k : Int) : Bool := if gnm o < 31 then false else if gnm o < 47 then (k = 5 ∨ k = 8 ∨ k = 10) else if gnm o < 87 then (k = 0 ∨ k = 2) else if gnm o < 153 then ((gnm o - 87) % 6 = 3 ∨ (gnm o - 87) % 6 = 4) else false
def gI (sz : Nat) (M : gM) : Prop := ∀ o k : Int, 0 ≤ o → o < (sz : Int) → (gRg o k).1 ≤ M o k ∧ M o k ≤ (gRg o k).2
theorem gRd {sz : Nat} {M : gM} {o k lo hi : Int} (I : gI sz M) (h0 : 0 ≤ o) (h1 : o < (sz : Int)) (hr : gRg o k = (lo, hi)) : ∃ v : Int, M o k = v ∧ (lo ≤ v ∧ v ≤ hi) := ⟨_, rfl, by have h := I o k h0 h1; rw [hr] at h; exact h⟩
theorem gI.set {sz : Nat} {M M2 : gM} {o k z lo hi : Int} (I : gI sz M) (hr : gRg o k = (lo, hi)) (hz : lo ≤ z ∧ z ≤ hi) (e : M2 = gset M o k z) : gI sz M2 := by
  intro a b h0 h1
  rw [e, gset_at]
  by_cases q : a = o ∧ b = k
  · rw [if_pos q, q.1, q.2, hr]; exact hz
  · rw [if_neg q]; exact I a b h0 h1
theorem gI.cpy {sz : Nat} {M M2 : gM} {o1 o0 z : Int} (I : gI sz M) (h0 : 0 ≤ o0) (h1 : o0 < (sz : Int)) (hr : ∀ k : Int, gRg o1 k = gRg o0 k) (e : M2 = gcpy M o1 o0 z) : gI sz M2 := by
  intro a b g0 g1
  rw [e]
  show _ ≤ (if a = o1 ∧ 0 ≤ b ∧ b < z then M o0 b else M a b) ∧ (if a = o1 ∧ 0 ≤ b ∧ b < z then M o0 b else M a b) ≤ _
  by_cases q : a = o1 ∧ 0 ≤ b ∧ b < z
  · rw [if_pos q, q.1, hr b]; exact I o0 b h0 h1
  · rw [if_neg q]; exact I a b g0 g1
theorem gI.setc {sz : Nat} {M M2 : gM} {o o0 k z : Int} (I : gI sz M) (h0 : 0 ≤ o0) (h1 : o0 < (sz : Int)) (hr : gRg o k = gRg o0 k) (hz : M o0 k = z) (e : M2 = gset M o k z) : gI sz M2 := by
  intro a b g0 g1
  rw [e, gset_at]
  by_cases q : a = o ∧ b = k
  · rw [if_pos q, q.1, q.2, hr, ← hz]; exact I o0 k h0 h1
  · rw [if_neg q]; exact I a b g0 g1
theorem gI.rf {sz : Nat} {M : gM} {o k v : Int} (I : gI sz M) (h0 : 0 ≤ o) (h1 : o < (sz : Int)) (hr : gRg o k = (v, v)) : M o k = v := by
  have h := I o k h0 h1
  rw [hr] at h
  have h2 : v ≤ M o k ∧ M o k ≤ v := h
  omega
theorem g_fitb {x : Int} (h : -128 ≤ x ∧ x ≤ 127) : fits .byte (.int (Int32.ofInt x)) = true := by
  show (decide (-128 ≤ Int32.ofInt x) && decide (Int32.ofInt x ≤ 127)) = true
  have h1 : (-128 : Int32) ≤ Int32.ofInt x := by rw [show (-128 : Int32) = Int32.ofInt (-128) by decide +kernel, gi_le (by omega) (by omega)]; exact h.1
  have h2 : Int32.ofInt x ≤ (127 : Int32) := by rw [show (127 : Int32) = Int32.ofInt 127 by decide +kernel, gi_le (by omega) (by omega)]; exact h.2
  simp [h1, h2]
theorem gI.bytes {sz : Nat} {M : gM} {o z : Int} (I : gI sz M) (h0 : 0 ≤ o) (h1 : o < (sz : Int)) (hr : ∀ k : Int, gRg o k = (-128, 127)) : ∀ i : Int, 0 ≤ i → i < z → fits .byte (.int (Int32.ofInt (M o i))) = true := by
  intro i _ _
  have h := I o i h0 h1
  rw [hr] at h
  exact g_fitb h
/-- the conditional part: a RIGHT of another KIND than WED tells a PARISH; who is in THE HOUSE has a WARD and a PARISH; the n of a ward CLAUSE is a WARD -/
def gPz (sz : Nat) (o : Int) : Prop := (31 ≤ o ∧ o < 47) ∨ (174 ≤ o ∧ o < 190) ∨ (236 ≤ o ∧ o < 252 ∧ sz = 358)
def gRz (sz : Nat) (o : Int) : Prop := (47 ≤ o ∧ o < 87) ∨ (252 ≤ o ∧ o < 292 ∧ sz = 358)
def gAz (sz : Nat) (o : Int) : Prop := (87 ≤ o ∧ o ≤ 147 ∧ (o - 87) % 6 = 0) ∨ (292 ≤ o ∧ o ≤ 352 ∧ (o - 292) % 6 = 0 ∧ sz = 358)
def gC (sz : Nat) (M : gM) : Prop := (∀ o : Int, gRz sz o → M o 0 = 3 ∨ M o 2 ≤ 5) ∧ (∀ o : Int, gPz sz o → M o 5 = 6 → 0 ≤ M o 8 ∧ 0 ≤ M o 10) ∧ (∀ o i : Int, gAz sz o → M (o + 3) i = 9 → 0 ≤ M (o + 4) i ∧ M (o + 4) i ≤ 3)
theorem gCr_R {sz : Nat} {o : Int} (h : gRz sz o) : gCr o 0 = true ∧ gCr o 2 = true := by
  unfold gRz at h
  have hn : 47 ≤ gnm o ∧ gnm o < 87 := by
    unfold gnm
    rcases h with h | h
    · rw [if_pos (by omega)]; exact h
    · rw [if_neg (by omega), if_neg (by omega), if_neg (by omega), if_neg (by omega), if_neg (by omega)]; omega
  unfold gCr
  constructor <;> (rw [if_neg (by omega), if_neg (by omega), if_pos (by omega)]; rfl)
theorem gCr_P {sz : Nat} {o : Int} (h : gPz sz o) : gCr o 5 = true ∧ gCr o 8 = true ∧ gCr o 10 = true := by
  unfold gPz at h
  have hn : 31 ≤ gnm o ∧ gnm o < 47 := by
    unfold gnm
    rcases h with h | h | h
    · rw [if_pos (by omega)]; exact h
    · rw [if_neg (by omega), if_neg (by omega), if_neg (by omega), if_pos (by omega)]; omega
    · rw [if_neg (by omega), if_neg (by omega), if_neg (by omega), if_neg (by omega), if_neg (by omega)]; omega
  unfold gCr
  refine ⟨?_, ?_, ?_⟩ <;> (rw [if_neg (by omega), if_pos (by omega)]; rfl)
theorem gCr_A {sz : Nat} {o i : Int} (h : gAz sz o) : gCr (o + 3) i = true ∧ gCr (o + 4) i = true := by
  unfold gAz at h
  have hn : ∀ j : Int, j = 3 ∨ j = 4 → 87 ≤ gnm (o + j) ∧ gnm (o + j) < 153 ∧ (gnm (o + j) - 87) % 6 = j := by
    intro j hj
    unfold gnm
    rcases h with h | h
    · rw [if_pos (by omega)]; omega
    · rw [if_neg (by omega), if_neg (by omega), if_neg (by omega), if_neg (by omega), if_neg (by omega)]; omega
  have h3 := hn 3 (Or.inl rfl)
  have h4 := hn 4 (Or.inr rfl)
  unfold gCr
  constructor
  · rw [if_neg (by omega), if_neg (by omega), if_neg (by omega), if_pos (by omega), h3.2.2]; rfl
  · rw [if_neg (by omega), if_neg (by omega), if_neg (by omega), if_pos (by omega), h4.2.2]; rfl
theorem gset_cr {M : gM} {o k z a b : Int} (hn : gCr o k = false) (h : gCr a b = true) : gset M o k z a b = M a b := gset_ne (fun q => by rw [q.1, q.2, hn] at h; cases h)
theorem gC.of {sz : Nat} {M M2 : gM} (C : gC sz M) (h : ∀ a b : Int, gCr a b = true → M2 a b = M a b) : gC sz M2 := by
  refine ⟨fun o ho => ?_, fun o ho => ?_, fun o i ho => ?_⟩
  · rw [h _ _ (gCr_R ho).1, h _ _ (gCr_R ho).2]; exact C.1 o ho
  · rw [h _ _ (gCr_P ho).1, h _ _ (gCr_P ho).2.1, h _ _ (gCr_P ho).2.2]; exact C.2.1 o ho
  · rw [h _ _ (gCr_A ho).1, h _ _ (gCr_A ho).2]; exact C.2.2 o i ho
theorem gC.set {sz : Nat} {M M2 : gM} {o k z : Int} (C : gC sz M) (hn : gCr o k = false) (e : M2 = gset M o k z) : gC sz M2 := C.of (fun a b h => by rw [e]; exact gset_cr hn h)
theorem gC.cpy {sz : Nat} {M M2 : gM} {o1 o0 z : Int} (C : gC sz M) (hn : ∀ k : Int, gCr o1 k = false) (e : M2 = gcpy M o1 o0 z) : gC sz M2 := C.of (fun a b h => by
  rw [e]
  show (if a = o1 ∧ 0 ≤ b ∧ b < z then M o0 b else M a b) = M a b
  rw [if_neg]
  intro q
  rw [q.1, hn b] at h
  cases h)
/-- where somebody is, but not in THE HOUSE -/
theorem gC.at {sz : Nat} {M M2 : gM} {o z : Int} (C : gC sz M) (h1 : 31 ≤ o ∧ o < 47) (hz : ¬ z = 6) (e : M2 = gset M o 5 z) : gC sz M2 := by
  refine ⟨fun a ha => ?_, fun a ha => ?_, fun a i ha => ?_⟩
  · rw [e, gset_ne (by unfold gRz at ha; omega), gset_ne (by unfold gRz at ha; omega)]; exact C.1 a ha
  · rw [e]
    by_cases q : a = o
    · rw [q, gset_eq]; exact fun h => absurd h hz
    · rw [gset_ne (fun h => q h.1), gset_ne (fun h => q h.1), gset_ne (fun h => q h.1)]; exact C.2.1 a ha
  · rw [e, gset_ne (by unfold gAz at ha; omega), gset_ne (by unfold gAz at ha; omega)]; exact C.2.2 a i ha
theorem gC.pers {sz : Nat} {M M2 : gM} {o : Int} (C : gC sz M) (h1 : 31 ≤ o ∧ o < 47) (hf : ∀ a b : Int, ¬ a = o → M2 a b = M a b) (ho : M2 o 5 = 6 → 0 ≤ M2 o 8 ∧ 0 ≤ M2 o 10) : gC sz M2 := by
  refine ⟨fun a ha => ?_, fun a ha => ?_, fun a i ha => ?_⟩
  · rw [hf _ _ (by unfold gRz at ha; omega), hf _ _ (by unfold gRz at ha; omega)]; exact C.1 a ha
  · by_cases q : a = o
    · rw [q]; exact ho
    · rw [hf _ _ q, hf _ _ q, hf _ _ q]; exact C.2.1 a ha
  · rw [hf _ _ (by unfold gAz at ha; omega), hf _ _ (by unfold gAz at ha; omega)]; exact C.2.2 a i ha
theorem gC.right {sz : Nat} {M M2 : gM} {o : Int} (C : gC sz M) (h1 : 47 ≤ o ∧ o < 87) (hf : ∀ a b : Int, ¬ a = o → M2 a b = M a b) (ho : M2 o 0 = 3 ∨ M2 o 2 ≤ 5) : gC sz M2 := by
  refine ⟨fun a ha => ?_, fun a ha => ?_, fun a i ha => ?_⟩
  · by_cases q : a = o
    · rw [q]; exact ho
    · rw [hf _ _ q, hf _ _ q]; exact C.1 a ha
  · rw [hf _ _ (by unfold gPz at ha; omega), hf _ _ (by unfold gPz at ha; omega), hf _ _ (by unfold gPz at ha; omega)]; exact C.2.1 a ha
  · rw [hf _ _ (by unfold gAz at ha; omega), hf _ _ (by unfold gAz at ha; omega)]; exact C.2.2 a i ha
theorem gC.act {sz : Nat} {M M1 M2 : gM} {o v a b : Int} (C : gC sz M) (h : 87 ≤ o ∧ o ≤ 147 ∧ (o - 87) % 6 = 0) (e1 : M1 = gset M (o + 3) v a) (e2 : M2 = gset M1 (o + 4) v b) (hab : a = 9 → 0 ≤ b ∧ b ≤ 3) : gC sz M2 := by
  refine ⟨fun q hq => ?_, fun q hq => ?_, fun q i hq => ?_⟩
  · unfold gRz at hq
    rw [e2, gset_ne (by omega), gset_ne (by omega), e1, gset_ne (by omega), gset_ne (by omega)]; exact C.1 q hq
  · unfold gPz at hq
    rw [e2, gset_ne (by omega), gset_ne (by omega), gset_ne (by omega), e1, gset_ne (by omega), gset_ne (by omega), gset_ne (by omega)]; exact C.2.1 q hq
  · have hq' := hq
    unfold gAz at hq
    by_cases g : q = o
    · by_cases gi : i = v
      · rw [g, gi, e2, gset_ne (by omega), gset_eq, e1, gset_eq]; exact hab
      · rw [g, e2, gset_ne (by omega), gset_ne (by omega), e1, gset_ne (by omega), gset_ne (by omega), ← g]; exact C.2.2 q i hq'
    · rw [e2, gset_ne (by omega), gset_ne (by omega), e1, gset_ne (by omega), gset_ne (by omega)]; exact C.2.2 q i hq'
/-! groups -/
def gFr (S : Nat) (M M1 : gM) : Prop := ∀ o k : Int, S.testBit (gG o k) = false → M1 o k = M o k
theorem gFr.rf {S : Nat} {M : gM} : gFr S M M := fun _ _ _ => rfl
theorem gFr.s {S g : Nat} {M M1 M2 : gM} {o k z : Int} (F : gFr S M M1) (e : M2 = gset M1 o k z) (hg : gG o k = g) (hS : S.testBit g = true) : gFr S M M2 := by
  intro a b h
  rw [e, gset_at]
  by_cases q : a = o ∧ b = k
  · rw [q.1, q.2, hg, hS] at h; cases h
  · rw [if_neg q]; exact F a b h
theorem gFr.y {S g : Nat} {M M1 M2 : gM} {o1 o0 z : Int} (F : gFr S M M1) (e : M2 = gcpy M1 o1 o0 z) (hg : ∀ k : Int, gG o1 k = g) (hS : S.testBit g = true) : gFr S M M2 := by
  intro a b h
  rw [e]
  show (if a = o1 ∧ 0 ≤ b ∧ b < z then M1 o0 b else M1 a b) = M a b
  by_cases q : a = o1 ∧ 0 ≤ b ∧ b < z
  · rw [q.1, hg, hS] at h; cases h
  · rw [if_neg q]; exact F a b h
theorem gFr.c {S T : Nat} {M M1 M2 : gM} (F : gFr S M M1) (F2 : gFr T M1 M2) (h : T &&& S = T) : gFr S M M2 := fun a b q => (F2 a b (by
  have h1 : (T &&& S).testBit (gG a b) = (T.testBit (gG a b) && S.testBit (gG a b)) := Nat.testBit_and T S (gG a b)
  rw [h, q, Bool.and_false] at h1
  exact h1)).trans (F a b q)
theorem gFr.at {T g : Nat} {M M1 : gM} {o k : Int} (F : gFr T M M1) (hg : gG o k = g) (hT : T.testBit g = false) : M1 o k = M o k := F o k (by rw [hg]; exact hT)


theorem Po0 {o : Int} (h : 31 ≤ o ∧ o < 47) : 0 ≤ o := by omega
theorem Posz {sz : Nat} {o : Int} (hsz : 206 ≤ sz) (h : 31 ≤ o ∧ o < 47) : o < (sz : Int) := by omega
theorem Rto0 {o : Int} (h : 47 ≤ o ∧ o < 87) : 0 ≤ o := by omega
theorem Rtosz {sz : Nat} {o : Int} (hsz : 206 ≤ sz) (h : 47 ≤ o ∧ o < 87) : o < (sz : Int) := by omega
theorem Ao0 {o : Int} (h : 87 ≤ o ∧ o ≤ 147 ∧ (o - 87) % 6 = 0) : 0 ≤ o := by omega
theorem Aosz {sz : Nat} {o : Int} (hsz : 206 ≤ sz) (h : 87 ≤ o ∧ o ≤ 147 ∧ (o - 87) % 6 = 0) : o < (sz : Int) := by omega
theorem A1o0 {o : Int} (h : 87 ≤ o ∧ o ≤ 147 ∧ (o - 87) % 6 = 0) : 0 ≤ o + 1 := by omega
theorem A1osz {sz : Nat} {o : Int} (hsz : 206 ≤ sz) (h : 87 ≤ o ∧ o ≤ 147 ∧ (o - 87) % 6 = 0) : o + 1 < (sz : Int) := by omega
theorem A2o0 {o : Int} (h : 87 ≤ o ∧ o ≤ 147 ∧ (o - 87) % 6 = 0) : 0 ≤ o + 2 := by omega
theorem A2osz {sz : Nat} {o : Int} (hsz : 206 ≤ sz) (h : 87 ≤ o ∧ o ≤ 147 ∧ (o - 87) % 6 = 0) : o + 2 < (sz : Int) := by omega
theorem A3o0 {o : Int} (h : 87 ≤ o ∧ o ≤ 147 ∧ (o - 87) % 6 = 0) : 0 ≤ o + 3 := by omega
theorem A3osz {sz : Nat} {o : Int} (hsz : 206 ≤ sz) (h : 87 ≤ o ∧ o ≤ 147 ∧ (o - 87) % 6 = 0) : o + 3 < (sz : Int) := by omega
theorem A4o0 {o : Int} (h : 87 ≤ o ∧ o ≤ 147 ∧ (o - 87) % 6 = 0) : 0 ≤ o + 4 := by omega
theorem A4osz {sz : Nat} {o : Int} (hsz : 206 ≤ sz) (h : 87 ≤ o ∧ o ≤ 147 ∧ (o - 87) % 6 = 0) : o + 4 < (sz : Int) := by omega
theorem A5o0 {o : Int} (h : 87 ≤ o ∧ o ≤ 147 ∧ (o - 87) % 6 = 0) : 0 ≤ o + 5 := by omega
theorem A5osz {sz : Nat} {o : Int} (hsz : 206 ≤ sz) (h : 87 ≤ o ∧ o ≤ 147 ∧ (o - 87) % 6 = 0) : o + 5 < (sz : Int) := by omega
theorem gsz {sz : Nat} {o : Int} (hsz : 206 ≤ sz) (h : o < 206) : o < (sz : Int) := by omega
theorem lay2_P {o : Int} (h : 31 ≤ o ∧ o < 47) : glay o = (0, 6) := by have := lay_P (i := o - 31) (by omega) (by omega); rwa [show 31 + (o - 31) = o by omega] at this
theorem lay2_R {o : Int} (h : 47 ≤ o ∧ o < 87) : glay o = (0, 8) := by have := lay_R (i := o - 47) (by omega) (by omega); rwa [show 47 + (o - 47) = o by omega] at this
theorem lay2_A {o : Int} (h : 87 ≤ o ∧ o ≤ 147 ∧ (o - 87) % 6 = 0) : glay o = (0, 0) := by have := lay_A0 (i := (o - 87) / 6) (by omega) (by omega); rwa [show 87 + 6 * ((o - 87) / 6) = o by omega] at this
theorem lay2_A1 {o : Int} (h : 87 ≤ o ∧ o ≤ 147 ∧ (o - 87) % 6 = 0) : glay (o + 1) = (3, 150) := by have := lay_A1 (i := (o - 87) / 6) (by omega) (by omega); rwa [show 88 + 6 * ((o - 87) / 6) = (o + 1) by omega] at this
theorem lay2_A2 {o : Int} (h : 87 ≤ o ∧ o ≤ 147 ∧ (o - 87) % 6 = 0) : glay (o + 2) = (1, 10) := by have := lay_A2 (i := (o - 87) / 6) (by omega) (by omega); rwa [show 89 + 6 * ((o - 87) / 6) = (o + 2) by omega] at this
theorem lay2_A3 {o : Int} (h : 87 ≤ o ∧ o ≤ 147 ∧ (o - 87) % 6 = 0) : glay (o + 3) = (1, 8) := by have := lay_A3 (i := (o - 87) / 6) (by omega) (by omega); rwa [show 90 + 6 * ((o - 87) / 6) = (o + 3) by omega] at this
theorem lay2_A4 {o : Int} (h : 87 ≤ o ∧ o ≤ 147 ∧ (o - 87) % 6 = 0) : glay (o + 4) = (1, 8) := by have := lay_A4 (i := (o - 87) / 6) (by omega) (by omega); rwa [show 91 + 6 * ((o - 87) / 6) = (o + 4) by omega] at this
theorem lay2_A5 {o : Int} (h : 87 ≤ o ∧ o ≤ 147 ∧ (o - 87) % 6 = 0) : glay (o + 5) = (1, 8) := by have := lay_A5 (i := (o - 87) / 6) (by omega) (by omega); rwa [show 92 + 6 * ((o - 87) / 6) = (o + 5) by omega] at this
theorem rP_0 {o : Int} (h : 31 ≤ o ∧ o < 47) : gRg o 0 = (0, 1) ∧ gCr o 0 = false ∧ gG o 0 = 3 := by
  have hn : gnm o = o := by unfold gnm; rw [if_pos (by omega)]
  refine ⟨?_, ?_, ?_⟩
  · unfold gRg gRn; rw [hn, if_neg (by omega), if_pos (by omega)]; rfl
  · unfold gCr; rw [hn, if_neg (by omega), if_pos (by omega)]; rfl
  · unfold gG gGn; rw [if_pos (by omega), if_neg (by omega), if_pos (by omega)]; rfl
theorem rP_1 {o : Int} (h : 31 ≤ o ∧ o < 47) : gRg o 1 = (-3000, 300) ∧ gCr o 1 = false ∧ gG o 1 = 3 := by
  have hn : gnm o = o := by unfold gnm; rw [if_pos (by omega)]
  refine ⟨?_, ?_, ?_⟩
  · unfold gRg gRn; rw [hn, if_neg (by omega), if_pos (by omega)]; rfl
  · unfold gCr; rw [hn, if_neg (by omega), if_pos (by omega)]; rfl
  · unfold gG gGn; rw [if_pos (by omega), if_neg (by omega), if_pos (by omega)]; rfl
theorem rP_2 {o : Int} (h : 31 ≤ o ∧ o < 47) : gRg o 2 = (0, 5) ∧ gCr o 2 = false ∧ gG o 2 = 3 := by
  have hn : gnm o = o := by unfold gnm; rw [if_pos (by omega)]
  refine ⟨?_, ?_, ?_⟩
  · unfold gRg gRn; rw [hn, if_neg (by omega), if_pos (by omega)]; rfl
  · unfold gCr; rw [hn, if_neg (by omega), if_pos (by omega)]; rfl
  · unfold gG gGn; rw [if_pos (by omega), if_neg (by omega), if_pos (by omega)]; rfl
theorem rP_3 {o : Int} (h : 31 ≤ o ∧ o < 47) : gRg o 3 = (-1, 15) ∧ gCr o 3 = false ∧ gG o 3 = 3 := by
  have hn : gnm o = o := by unfold gnm; rw [if_pos (by omega)]
  refine ⟨?_, ?_, ?_⟩
  · unfold gRg gRn; rw [hn, if_neg (by omega), if_pos (by omega)]; rfl
  · unfold gCr; rw [hn, if_neg (by omega), if_pos (by omega)]; rfl
  · unfold gG gGn; rw [if_pos (by omega), if_neg (by omega), if_pos (by omega)]; rfl
theorem rP_4 {o : Int} (h : 31 ≤ o ∧ o < 47) : gRg o 4 = (0, 9) ∧ gCr o 4 = false ∧ gG o 4 = 3 := by
  have hn : gnm o = o := by unfold gnm; rw [if_pos (by omega)]
  refine ⟨?_, ?_, ?_⟩
  · unfold gRg gRn; rw [hn, if_neg (by omega), if_pos (by omega)]; rfl
  · unfold gCr; rw [hn, if_neg (by omega), if_pos (by omega)]; rfl
  · unfold gG gGn; rw [if_pos (by omega), if_neg (by omega), if_pos (by omega)]; rfl
theorem rP_5 {o : Int} (h : 31 ≤ o ∧ o < 47) : gRg o 5 = (0, 8) ∧ gCr o 5 = true ∧ gG o 5 = 4 := by
  have hn : gnm o = o := by unfold gnm; rw [if_pos (by omega)]
  refine ⟨?_, ?_, ?_⟩
  · unfold gRg gRn; rw [hn, if_neg (by omega), if_pos (by omega)]; rfl
  · unfold gCr; rw [hn, if_neg (by omega), if_pos (by omega)]; rfl
  · unfold gG gGn; rw [if_pos (by omega), if_neg (by omega), if_pos (by omega)]; rfl
theorem rP_6 {o : Int} (h : 31 ≤ o ∧ o < 47) : gRg o 6 = (-2147483648, 2147483647) ∧ gCr o 6 = false ∧ gG o 6 = 4 := by
  have hn : gnm o = o := by unfold gnm; rw [if_pos (by omega)]
  refine ⟨?_, ?_, ?_⟩
  · unfold gRg gRn; rw [hn, if_neg (by omega), if_pos (by omega)]; rfl
  · unfold gCr; rw [hn, if_neg (by omega), if_pos (by omega)]; rfl
  · unfold gG gGn; rw [if_pos (by omega), if_neg (by omega), if_pos (by omega)]; rfl
theorem rP_7 {o : Int} (h : 31 ≤ o ∧ o < 47) : gRg o 7 = (-2147483648, 2147483647) ∧ gCr o 7 = false ∧ gG o 7 = 4 := by
  have hn : gnm o = o := by unfold gnm; rw [if_pos (by omega)]
  refine ⟨?_, ?_, ?_⟩
  · unfold gRg gRn; rw [hn, if_neg (by omega), if_pos (by omega)]; rfl
  · unfold gCr; rw [hn, if_neg (by omega), if_pos (by omega)]; rfl
  · unfold gG gGn; rw [if_pos (by omega), if_neg (by omega), if_pos (by omega)]; rfl
theorem rP_8 {o : Int} (h : 31 ≤ o ∧ o < 47) : gRg o 8 = (-1, 3) ∧ gCr o 8 = true ∧ gG o 8 = 4 := by
  have hn : gnm o = o := by unfold gnm; rw [if_pos (by omega)]
  refine ⟨?_, ?_, ?_⟩
  · unfold gRg gRn; rw [hn, if_neg (by omega), if_pos (by omega)]; rfl
  · unfold gCr; rw [hn, if_neg (by omega), if_pos (by omega)]; rfl
  · unfold gG gGn; rw [if_pos (by omega), if_neg (by omega), if_pos (by omega)]; rfl
theorem rP_9 {o : Int} (h : 31 ≤ o ∧ o < 47) : gRg o 9 = (-1, 3) ∧ gCr o 9 = false ∧ gG o 9 = 4 := by
  have hn : gnm o = o := by unfold gnm; rw [if_pos (by omega)]
  refine ⟨?_, ?_, ?_⟩
  · unfold gRg gRn; rw [hn, if_neg (by omega), if_pos (by omega)]; rfl
  · unfold gCr; rw [hn, if_neg (by omega), if_pos (by omega)]; rfl
  · unfold gG gGn; rw [if_pos (by omega), if_neg (by omega), if_pos (by omega)]; rfl
theorem rP_10 {o : Int} (h : 31 ≤ o ∧ o < 47) : gRg o 10 = (-1, 5) ∧ gCr o 10 = true ∧ gG o 10 = 4 := by
  have hn : gnm o = o := by unfold gnm; rw [if_pos (by omega)]
  refine ⟨?_, ?_, ?_⟩
  · unfold gRg gRn; rw [hn, if_neg (by omega), if_pos (by omega)]; rfl
  · unfold gCr; rw [hn, if_neg (by omega), if_pos (by omega)]; rfl
  · unfold gG gGn; rw [if_pos (by omega), if_neg (by omega), if_pos (by omega)]; rfl
theorem rP_11 {o : Int} (h : 31 ≤ o ∧ o < 47) : gRg o 11 = (0, 8) ∧ gCr o 11 = false ∧ gG o 11 = 5 := by
  have hn : gnm o = o := by unfold gnm; rw [if_pos (by omega)]
  refine ⟨?_, ?_, ?_⟩
  · unfold gRg gRn; rw [hn, if_neg (by omega), if_pos (by omega)]; rfl
  · unfold gCr; rw [hn, if_neg (by omega), if_pos (by omega)]; rfl
  · unfold gG gGn; rw [if_pos (by omega), if_neg (by omega), if_pos (by omega)]; rfl
theorem rP_12 {o : Int} (h : 31 ≤ o ∧ o < 47) : gRg o 12 = (-2147483648, 2147483647) ∧ gCr o 12 = false ∧ gG o 12 = 6 := by
  have hn : gnm o = o := by unfold gnm; rw [if_pos (by omega)]
  refine ⟨?_, ?_, ?_⟩
  · unfold gRg gRn; rw [hn, if_neg (by omega), if_pos (by omega)]; rfl
  · unfold gCr; rw [hn, if_neg (by omega), if_pos (by omega)]; rfl
  · unfold gG gGn; rw [if_pos (by omega), if_neg (by omega), if_pos (by omega)]; rfl
theorem rP_13 {o : Int} (h : 31 ≤ o ∧ o < 47) : gRg o 13 = (-2147483648, 2147483647) ∧ gCr o 13 = false ∧ gG o 13 = 6 := by
  have hn : gnm o = o := by unfold gnm; rw [if_pos (by omega)]
  refine ⟨?_, ?_, ?_⟩
  · unfold gRg gRn; rw [hn, if_neg (by omega), if_pos (by omega)]; rfl
  · unfold gCr; rw [hn, if_neg (by omega), if_pos (by omega)]; rfl
  · unfold gG gGn; rw [if_pos (by omega), if_neg (by omega), if_pos (by omega)]; rfl
theorem rP_14 {o : Int} (h : 31 ≤ o ∧ o < 47) : gRg o 14 = (0, 1) ∧ gCr o 14 = false ∧ gG o 14 = 6 := by
  have hn : gnm o = o := by unfold gnm; rw [if_pos (by omega)]
  refine ⟨?_, ?_, ?_⟩
  · unfold gRg gRn; rw [hn, if_neg (by omega), if_pos (by omega)]; rfl
  · unfold gCr; rw [hn, if_neg (by omega), if_pos (by omega)]; rfl
  · unfold gG gGn; rw [if_pos (by omega), if_neg (by omega), if_pos (by omega)]; rfl
theorem rP_15 {o : Int} (h : 31 ≤ o ∧ o < 47) : gRg o 15 = (-2147483648, 2147483647) ∧ gCr o 15 = false ∧ gG o 15 = 6 := by
  have hn : gnm o = o := by unfold gnm; rw [if_pos (by omega)]
  refine ⟨?_, ?_, ?_⟩
  · unfold gRg gRn; rw [hn, if_neg (by omega), if_pos (by omega)]; rfl
  · unfold gCr; rw [hn, if_neg (by omega), if_pos (by omega)]; rfl
  · unfold gG gGn; rw [if_pos (by omega), if_neg (by omega), if_pos (by omega)]; rfl
theorem rR_0 {o : Int} (h : 47 ≤ o ∧ o < 87) : gRg o 0 = (0, 4) ∧ gCr o 0 = true ∧ gG o 0 = 7 := by
  have hn : gnm o = o := by unfold gnm; rw [if_pos (by omega)]
  refine ⟨?_, ?_, ?_⟩
  · unfold gRg gRn; rw [hn, if_neg (by omega), if_neg (by omega), if_pos (by omega)]; rfl
  · unfold gCr; rw [hn, if_neg (by omega), if_neg (by omega), if_pos (by omega)]; rfl
  · unfold gG gGn; rw [if_pos (by omega), if_neg (by omega), if_neg (by omega), if_pos (by omega)]; rfl
theorem rR_1 {o : Int} (h : 47 ≤ o ∧ o < 87) : gRg o 1 = (0, 15) ∧ gCr o 1 = false ∧ gG o 1 = 7 := by
  have hn : gnm o = o := by unfold gnm; rw [if_pos (by omega)]
  refine ⟨?_, ?_, ?_⟩
  · unfold gRg gRn; rw [hn, if_neg (by omega), if_neg (by omega), if_pos (by omega)]; rfl
  · unfold gCr; rw [hn, if_neg (by omega), if_neg (by omega), if_pos (by omega)]; rfl
  · unfold gG gGn; rw [if_pos (by omega), if_neg (by omega), if_neg (by omega), if_pos (by omega)]; rfl
theorem rR_2 {o : Int} (h : 47 ≤ o ∧ o < 87) : gRg o 2 = (0, 15) ∧ gCr o 2 = true ∧ gG o 2 = 7 := by
  have hn : gnm o = o := by unfold gnm; rw [if_pos (by omega)]
  refine ⟨?_, ?_, ?_⟩
  · unfold gRg gRn; rw [hn, if_neg (by omega), if_neg (by omega), if_pos (by omega)]; rfl
  · unfold gCr; rw [hn, if_neg (by omega), if_neg (by omega), if_pos (by omega)]; rfl
  · unfold gG gGn; rw [if_pos (by omega), if_neg (by omega), if_neg (by omega), if_pos (by omega)]; rfl
theorem rR_3 {o : Int} (h : 47 ≤ o ∧ o < 87) : gRg o 3 = (0, 9999) ∧ gCr o 3 = false ∧ gG o 3 = 7 := by
  have hn : gnm o = o := by unfold gnm; rw [if_pos (by omega)]
  refine ⟨?_, ?_, ?_⟩
  · unfold gRg gRn; rw [hn, if_neg (by omega), if_neg (by omega), if_pos (by omega)]; rfl
  · unfold gCr; rw [hn, if_neg (by omega), if_neg (by omega), if_pos (by omega)]; rfl
  · unfold gG gGn; rw [if_pos (by omega), if_neg (by omega), if_neg (by omega), if_pos (by omega)]; rfl
theorem rR_4 {o : Int} (h : 47 ≤ o ∧ o < 87) : gRg o 4 = (-3000, 300) ∧ gCr o 4 = false ∧ gG o 4 = 7 := by
  have hn : gnm o = o := by unfold gnm; rw [if_pos (by omega)]
  refine ⟨?_, ?_, ?_⟩
  · unfold gRg gRn; rw [hn, if_neg (by omega), if_neg (by omega), if_pos (by omega)]; rfl
  · unfold gCr; rw [hn, if_neg (by omega), if_neg (by omega), if_pos (by omega)]; rfl
  · unfold gG gGn; rw [if_pos (by omega), if_neg (by omega), if_neg (by omega), if_pos (by omega)]; rfl
theorem rR_5 {o : Int} (h : 47 ≤ o ∧ o < 87) : gRg o 5 = (0, 1) ∧ gCr o 5 = false ∧ gG o 5 = 7 := by
  have hn : gnm o = o := by unfold gnm; rw [if_pos (by omega)]
  refine ⟨?_, ?_, ?_⟩
  · unfold gRg gRn; rw [hn, if_neg (by omega), if_neg (by omega), if_pos (by omega)]; rfl
  · unfold gCr; rw [hn, if_neg (by omega), if_neg (by omega), if_pos (by omega)]; rfl
  · unfold gG gGn; rw [if_pos (by omega), if_neg (by omega), if_neg (by omega), if_pos (by omega)]; rfl
theorem rR_6 {o : Int} (h : 47 ≤ o ∧ o < 87) : gRg o 6 = (0, 80) ∧ gCr o 6 = false ∧ gG o 6 = 7 := by
  have hn : gnm o = o := by unfold gnm; rw [if_pos (by omega)]
  refine ⟨?_, ?_, ?_⟩
  · unfold gRg gRn; rw [hn, if_neg (by omega), if_neg (by omega), if_pos (by omega)]; rfl
  · unfold gCr; rw [hn, if_neg (by omega), if_neg (by omega), if_pos (by omega)]; rfl
  · unfold gG gGn; rw [if_pos (by omega), if_neg (by omega), if_neg (by omega), if_pos (by omega)]; rfl
theorem rR_7 {o : Int} (h : 47 ≤ o ∧ o < 87) : gRg o 7 = (-1, 80) ∧ gCr o 7 = false ∧ gG o 7 = 7 := by
  have hn : gnm o = o := by unfold gnm; rw [if_pos (by omega)]
  refine ⟨?_, ?_, ?_⟩
  · unfold gRg gRn; rw [hn, if_neg (by omega), if_neg (by omega), if_pos (by omega)]; rfl
  · unfold gCr; rw [hn, if_neg (by omega), if_neg (by omega), if_pos (by omega)]; rfl
  · unfold gG gGn; rw [if_pos (by omega), if_neg (by omega), if_neg (by omega), if_pos (by omega)]; rfl
theorem rR_8 {o : Int} (h : 47 ≤ o ∧ o < 87) : gRg o 8 = (0, 1) ∧ gCr o 8 = false ∧ gG o 8 = 7 := by
  have hn : gnm o = o := by unfold gnm; rw [if_pos (by omega)]
  refine ⟨?_, ?_, ?_⟩
  · unfold gRg gRn; rw [hn, if_neg (by omega), if_neg (by omega), if_pos (by omega)]; rfl
  · unfold gCr; rw [hn, if_neg (by omega), if_neg (by omega), if_pos (by omega)]; rfl
  · unfold gG gGn; rw [if_pos (by omega), if_neg (by omega), if_neg (by omega), if_pos (by omega)]; rfl
theorem rA_5 {o : Int} (h : 87 ≤ o ∧ o ≤ 147 ∧ (o - 87) % 6 = 0) : gRg o 5 = (0, 150) ∧ gCr o 5 = false ∧ gG o 5 = 8 := by
  have hn : gnm o = o := by unfold gnm; rw [if_pos (by omega)]
  have hm : (o - 87) % 6 = 0 := h.2.2
  refine ⟨?_, ?_, ?_⟩
  · unfold gRg gRn; rw [hn, if_neg (by omega), if_neg (by omega), if_neg (by omega), if_pos (by omega), hm]; rfl
  · unfold gCr; rw [hn, if_neg (by omega), if_neg (by omega), if_neg (by omega), if_pos (by omega), hm]; rfl
  · unfold gG gGn; rw [if_pos (by omega), if_neg (by omega), if_neg (by omega), if_neg (by omega), if_pos (by omega), if_pos hm]; rfl
theorem rA_6 {o : Int} (h : 87 ≤ o ∧ o ≤ 147 ∧ (o - 87) % 6 = 0) : gRg o 6 = (0, 300) ∧ gCr o 6 = false ∧ gG o 6 = 8 := by
  have hn : gnm o = o := by unfold gnm; rw [if_pos (by omega)]
  have hm : (o - 87) % 6 = 0 := h.2.2
  refine ⟨?_, ?_, ?_⟩
  · unfold gRg gRn; rw [hn, if_neg (by omega), if_neg (by omega), if_neg (by omega), if_pos (by omega), hm]; rfl
  · unfold gCr; rw [hn, if_neg (by omega), if_neg (by omega), if_neg (by omega), if_pos (by omega), hm]; rfl
  · unfold gG gGn; rw [if_pos (by omega), if_neg (by omega), if_neg (by omega), if_neg (by omega), if_pos (by omega), if_pos hm]; rfl
theorem rA_7 {o : Int} (h : 87 ≤ o ∧ o ≤ 147 ∧ (o - 87) % 6 = 0) : gRg o 7 = (0, 8) ∧ gCr o 7 = false ∧ gG o 7 = 8 := by
  have hn : gnm o = o := by unfold gnm; rw [if_pos (by omega)]
  have hm : (o - 87) % 6 = 0 := h.2.2
  refine ⟨?_, ?_, ?_⟩
  · unfold gRg gRn; rw [hn, if_neg (by omega), if_neg (by omega), if_neg (by omega), if_pos (by omega), hm]; rfl
  · unfold gCr; rw [hn, if_neg (by omega), if_neg (by omega), if_neg (by omega), if_pos (by omega), hm]; rfl
  · unfold gG gGn; rw [if_pos (by omega), if_neg (by omega), if_neg (by omega), if_neg (by omega), if_pos (by omega), if_pos hm]; rfl
theorem rAA_1 {o : Int} (h : 87 ≤ o ∧ o ≤ 147 ∧ (o - 87) % 6 = 0) (k : Int) : gRg (o + 1) k = (-128, 127) ∧ gCr (o + 1) k = false ∧ gG (o + 1) k = 8 := by
  have hn : gnm (o + 1) = (o + 1) := by unfold gnm; rw [if_pos (by omega)]
  have hm : ((o + 1) - 87) % 6 = 1 := by omega
  refine ⟨?_, ?_, ?_⟩
  · unfold gRg gRn; rw [hn, if_neg (by omega), if_neg (by omega), if_neg (by omega), if_pos (by omega), hm]; rfl
  · unfold gCr; rw [hn, if_neg (by omega), if_neg (by omega), if_neg (by omega), if_pos (by omega), hm]; rfl
  · unfold gG gGn; rw [if_pos (by omega), if_neg (by omega), if_neg (by omega), if_neg (by omega), if_pos (by omega), if_neg (by omega)]
theorem rAA_2 {o : Int} (h : 87 ≤ o ∧ o ≤ 147 ∧ (o - 87) % 6 = 0) (k : Int) : gRg (o + 2) k = (-2147483648, 2147483647) ∧ gCr (o + 2) k = false ∧ gG (o + 2) k = 8 := by
  have hn : gnm (o + 2) = (o + 2) := by unfold gnm; rw [if_pos (by omega)]
  have hm : ((o + 2) - 87) % 6 = 2 := by omega
  refine ⟨?_, ?_, ?_⟩
  · unfold gRg gRn; rw [hn, if_neg (by omega), if_neg (by omega), if_neg (by omega), if_pos (by omega), hm]; rfl
  · unfold gCr; rw [hn, if_neg (by omega), if_neg (by omega), if_neg (by omega), if_pos (by omega), hm]; rfl
  · unfold gG gGn; rw [if_pos (by omega), if_neg (by omega), if_neg (by omega), if_neg (by omega), if_pos (by omega), if_neg (by omega)]
theorem rAA_3 {o : Int} (h : 87 ≤ o ∧ o ≤ 147 ∧ (o - 87) % 6 = 0) (k : Int) : gRg (o + 3) k = (0, 9) ∧ gCr (o + 3) k = true ∧ gG (o + 3) k = 8 := by
  have hn : gnm (o + 3) = (o + 3) := by unfold gnm; rw [if_pos (by omega)]
  have hm : ((o + 3) - 87) % 6 = 3 := by omega
  refine ⟨?_, ?_, ?_⟩
  · unfold gRg gRn; rw [hn, if_neg (by omega), if_neg (by omega), if_neg (by omega), if_pos (by omega), hm]; rfl
  · unfold gCr; rw [hn, if_neg (by omega), if_neg (by omega), if_neg (by omega), if_pos (by omega), hm]; rfl
  · unfold gG gGn; rw [if_pos (by omega), if_neg (by omega), if_neg (by omega), if_neg (by omega), if_pos (by omega), if_neg (by omega)]
theorem rAA_4 {o : Int} (h : 87 ≤ o ∧ o ≤ 147 ∧ (o - 87) % 6 = 0) (k : Int) : gRg (o + 4) k = (-2147483648, 2147483647) ∧ gCr (o + 4) k = true ∧ gG (o + 4) k = 8 := by
  have hn : gnm (o + 4) = (o + 4) := by unfold gnm; rw [if_pos (by omega)]
  have hm : ((o + 4) - 87) % 6 = 4 := by omega
  refine ⟨?_, ?_, ?_⟩
  · unfold gRg gRn; rw [hn, if_neg (by omega), if_neg (by omega), if_neg (by omega), if_pos (by omega), hm]; rfl
  · unfold gCr; rw [hn, if_neg (by omega), if_neg (by omega), if_neg (by omega), if_pos (by omega), hm]; rfl
  · unfold gG gGn; rw [if_pos (by omega), if_neg (by omega), if_neg (by omega), if_neg (by omega), if_pos (by omega), if_neg (by omega)]
theorem rAA_5 {o : Int} (h : 87 ≤ o ∧ o ≤ 147 ∧ (o - 87) % 6 = 0) (k : Int) : gRg (o + 5) k = (0, 150) ∧ gCr (o + 5) k = false ∧ gG (o + 5) k = 8 := by
  have hn : gnm (o + 5) = (o + 5) := by unfold gnm; rw [if_pos (by omega)]
  have hm : ((o + 5) - 87) % 6 = 5 := by omega
  refine ⟨?_, ?_, ?_⟩
  · unfold gRg gRn; rw [hn, if_neg (by omega), if_neg (by omega), if_neg (by omega), if_pos (by omega), hm]; rfl
  · unfold gCr; rw [hn, if_neg (by omega), if_neg (by omega), if_neg (by omega), if_pos (by omega), hm]; rfl
  · unfold gG gGn; rw [if_pos (by omega), if_neg (by omega), if_neg (by omega), if_neg (by omega), if_pos (by omega), if_neg (by omega)]
theorem rfA_0 {sz : Nat} {M : gM} (I : gI sz M) (hsz : 206 ≤ sz) {o : Int} (h : 87 ≤ o ∧ o ≤ 147 ∧ (o - 87) % 6 = 0) : M o 0 = o + 1 + 1 := by
  have h1 := I o 0 (by omega) (by omega)
  have hr : gRg o 0 = (o + 0 + 2 + (o - o), o + 0 + 2 + (o - o)) := by
    have hn : gnm o = o := by unfold gnm; rw [if_pos (by omega)]
    have hm : (o - 87) % 6 = 0 := h.2.2
    unfold gRg gRn; rw [hn, if_neg (by omega), if_neg (by omega), if_neg (by omega), if_pos (by omega), hm]; rfl
  rw [hr] at h1
  have h2 : o + 0 + 2 + (o - o) ≤ M o 0 ∧ M o 0 ≤ o + 0 + 2 + (o - o) := h1
  omega
theorem rfA_1 {sz : Nat} {M : gM} (I : gI sz M) (hsz : 206 ≤ sz) {o : Int} (h : 87 ≤ o ∧ o ≤ 147 ∧ (o - 87) % 6 = 0) : M o 1 = o + 2 + 1 := by
  have h1 := I o 1 (by omega) (by omega)
  have hr : gRg o 1 = (o + 1 + 2 + (o - o), o + 1 + 2 + (o - o)) := by
    have hn : gnm o = o := by unfold gnm; rw [if_pos (by omega)]
    have hm : (o - 87) % 6 = 0 := h.2.2
    unfold gRg gRn; rw [hn, if_neg (by omega), if_neg (by omega), if_neg (by omega), if_pos (by omega), hm]; rfl
  rw [hr] at h1
  have h2 : o + 1 + 2 + (o - o) ≤ M o 1 ∧ M o 1 ≤ o + 1 + 2 + (o - o) := h1
  omega
theorem rfA_2 {sz : Nat} {M : gM} (I : gI sz M) (hsz : 206 ≤ sz) {o : Int} (h : 87 ≤ o ∧ o ≤ 147 ∧ (o - 87) % 6 = 0) : M o 2 = o + 3 + 1 := by
  have h1 := I o 2 (by omega) (by omega)
  have hr : gRg o 2 = (o + 2 + 2 + (o - o), o + 2 + 2 + (o - o)) := by
    have hn : gnm o = o := by unfold gnm; rw [if_pos (by omega)]
    have hm : (o - 87) % 6 = 0 := h.2.2
    unfold gRg gRn; rw [hn, if_neg (by omega), if_neg (by omega), if_neg (by omega), if_pos (by omega), hm]; rfl
  rw [hr] at h1
  have h2 : o + 2 + 2 + (o - o) ≤ M o 2 ∧ M o 2 ≤ o + 2 + 2 + (o - o) := h1
  omega
theorem rfA_3 {sz : Nat} {M : gM} (I : gI sz M) (hsz : 206 ≤ sz) {o : Int} (h : 87 ≤ o ∧ o ≤ 147 ∧ (o - 87) % 6 = 0) : M o 3 = o + 4 + 1 := by
  have h1 := I o 3 (by omega) (by omega)
  have hr : gRg o 3 = (o + 3 + 2 + (o - o), o + 3 + 2 + (o - o)) := by
    have hn : gnm o = o := by unfold gnm; rw [if_pos (by omega)]
    have hm : (o - 87) % 6 = 0 := h.2.2
    unfold gRg gRn; rw [hn, if_neg (by omega), if_neg (by omega), if_neg (by omega), if_pos (by omega), hm]; rfl
  rw [hr] at h1
  have h2 : o + 3 + 2 + (o - o) ≤ M o 3 ∧ M o 3 ≤ o + 3 + 2 + (o - o) := h1
  omega
theorem rfA_4 {sz : Nat} {M : gM} (I : gI sz M) (hsz : 206 ≤ sz) {o : Int} (h : 87 ≤ o ∧ o ≤ 147 ∧ (o - 87) % 6 = 0) : M o 4 = o + 5 + 1 := by
  have h1 := I o 4 (by omega) (by omega)
  have hr : gRg o 4 = (o + 4 + 2 + (o - o), o + 4 + 2 + (o - o)) := by
    have hn : gnm o = o := by unfold gnm; rw [if_pos (by omega)]
    have hm : (o - 87) % 6 = 0 := h.2.2
    unfold gRg gRn; rw [hn, if_neg (by omega), if_neg (by omega), if_neg (by omega), if_pos (by omega), hm]; rfl
  rw [hr] at h1
  have h2 : o + 4 + 2 + (o - o) ≤ M o 4 ∧ M o 4 ≤ o + 4 + 2 + (o - o) := h1
  omega
theorem rs_NOW {k : Int} (h : 0 ≤ k ∧ k < 1) : gRg 191 k = (0, 300) ∧ gCr 191 k = false ∧ gG 191 k = 35 := by
  refine ⟨?_, rfl, ?_⟩
  · show gRsg k = _; unfold gRsg; rw [if_pos (by omega), if_pos (by omega), if_pos (by omega), if_pos (by omega), if_pos (by omega)]
  · show gGsg k = _; unfold gGsg; rw [if_pos (by omega), if_pos (by omega), if_pos (by omega), if_pos (by omega), if_pos (by omega)]
theorem rs_PERS {k : Int} (h : 1 ≤ k ∧ k < 2) : gRg 191 k = (0, 16) ∧ gCr 191 k = false ∧ gG 191 k = 36 := by
  refine ⟨?_, rfl, ?_⟩
  · show gRsg k = _; unfold gRsg; rw [if_pos (by omega), if_pos (by omega), if_pos (by omega), if_pos (by omega), if_neg (by omega), if_pos (by omega)]
  · show gGsg k = _; unfold gGsg; rw [if_pos (by omega), if_pos (by omega), if_pos (by omega), if_pos (by omega), if_neg (by omega), if_pos (by omega)]
theorem rs_NR {k : Int} (h : 2 ≤ k ∧ k < 3) : gRg 191 k = (0, 40) ∧ gCr 191 k = false ∧ gG 191 k = 37 := by
  refine ⟨?_, rfl, ?_⟩
  · show gRsg k = _; unfold gRsg; rw [if_pos (by omega), if_pos (by omega), if_pos (by omega), if_pos (by omega), if_neg (by omega), if_neg (by omega)]
  · show gGsg k = _; unfold gGsg; rw [if_pos (by omega), if_pos (by omega), if_pos (by omega), if_pos (by omega), if_neg (by omega), if_neg (by omega)]
theorem rs_NE {k : Int} (h : 3 ≤ k ∧ k < 4) : gRg 191 k = (0, 80) ∧ gCr 191 k = false ∧ gG 191 k = 88 := by
  refine ⟨?_, rfl, ?_⟩
  · show gRsg k = _; unfold gRsg; rw [if_pos (by omega), if_pos (by omega), if_pos (by omega), if_neg (by omega), if_pos (by omega), if_pos (by omega)]
  · show gGsg k = _; unfold gGsg; rw [if_pos (by omega), if_pos (by omega), if_pos (by omega), if_neg (by omega), if_pos (by omega), if_pos (by omega)]
theorem rs_NA {k : Int} (h : 4 ≤ k ∧ k < 5) : gRg 191 k = (0, 11) ∧ gCr 191 k = false ∧ gG 191 k = 38 := by
  refine ⟨?_, rfl, ?_⟩
  · show gRsg k = _; unfold gRsg; rw [if_pos (by omega), if_pos (by omega), if_pos (by omega), if_neg (by omega), if_pos (by omega), if_neg (by omega)]
  · show gGsg k = _; unfold gGsg; rw [if_pos (by omega), if_pos (by omega), if_pos (by omega), if_neg (by omega), if_pos (by omega), if_neg (by omega)]
theorem rs_NO {k : Int} (h : 5 ≤ k ∧ k < 6) : gRg 191 k = (0, 20) ∧ gCr 191 k = false ∧ gG 191 k = 39 := by
  refine ⟨?_, rfl, ?_⟩
  · show gRsg k = _; unfold gRsg; rw [if_pos (by omega), if_pos (by omega), if_pos (by omega), if_neg (by omega), if_neg (by omega), if_pos (by omega)]
  · show gGsg k = _; unfold gGsg; rw [if_pos (by omega), if_pos (by omega), if_pos (by omega), if_neg (by omega), if_neg (by omega), if_pos (by omega)]
theorem rs_NN {k : Int} (h : 6 ≤ k ∧ k < 7) : gRg 191 k = (0, 40) ∧ gCr 191 k = false ∧ gG 191 k = 40 := by
  refine ⟨?_, rfl, ?_⟩
  · show gRsg k = _; unfold gRsg; rw [if_pos (by omega), if_pos (by omega), if_pos (by omega), if_neg (by omega), if_neg (by omega), if_neg (by omega)]
  · show gGsg k = _; unfold gGsg; rw [if_pos (by omega), if_pos (by omega), if_pos (by omega), if_neg (by omega), if_neg (by omega), if_neg (by omega)]
theorem rs_NC {k : Int} (h : 7 ≤ k ∧ k < 8) : gRg 191 k = (0, 6) ∧ gCr 191 k = false ∧ gG 191 k = 41 := by
  refine ⟨?_, rfl, ?_⟩
  · show gRsg k = _; unfold gRsg; rw [if_pos (by omega), if_pos (by omega), if_neg (by omega), if_pos (by omega), if_pos (by omega)]
  · show gGsg k = _; unfold gGsg; rw [if_pos (by omega), if_pos (by omega), if_neg (by omega), if_pos (by omega), if_pos (by omega)]
theorem rs_STORE {k : Int} (h : 8 ≤ k ∧ k < 9) : gRg 191 k = (-2147483648, 2147483647) ∧ gCr 191 k = false ∧ gG 191 k = 42 := by
  refine ⟨?_, rfl, ?_⟩
  · show gRsg k = _; unfold gRsg; rw [if_pos (by omega), if_pos (by omega), if_neg (by omega), if_pos (by omega), if_neg (by omega), if_pos (by omega)]
  · show gGsg k = _; unfold gGsg; rw [if_pos (by omega), if_pos (by omega), if_neg (by omega), if_pos (by omega), if_neg (by omega), if_pos (by omega)]
theorem rs_PRICE {k : Int} (h : 9 ≤ k ∧ k < 10) : gRg 191 k = (-2147483648, 2147483647) ∧ gCr 191 k = false ∧ gG 191 k = 43 := by
  refine ⟨?_, rfl, ?_⟩
  · show gRsg k = _; unfold gRsg; rw [if_pos (by omega), if_pos (by omega), if_neg (by omega), if_pos (by omega), if_neg (by omega), if_neg (by omega)]
  · show gGsg k = _; unfold gGsg; rw [if_pos (by omega), if_pos (by omega), if_neg (by omega), if_pos (by omega), if_neg (by omega), if_neg (by omega)]
theorem rs_TAPED {k : Int} (h : 10 ≤ k ∧ k < 16) : gRg 191 k = (0, 150) ∧ gCr 191 k = false ∧ gG 191 k = 44 := by
  refine ⟨?_, rfl, ?_⟩
  · show gRsg k = _; unfold gRsg; rw [if_pos (by omega), if_pos (by omega), if_neg (by omega), if_neg (by omega), if_pos (by omega), if_pos (by omega)]
  · show gGsg k = _; unfold gGsg; rw [if_pos (by omega), if_pos (by omega), if_neg (by omega), if_neg (by omega), if_pos (by omega), if_pos (by omega)]
theorem rs_RENT {k : Int} (h : 16 ≤ k ∧ k < 24) : gRg 191 k = (-2147483648, 2147483647) ∧ gCr 191 k = false ∧ gG 191 k = 45 := by
  refine ⟨?_, rfl, ?_⟩
  · show gRsg k = _; unfold gRsg; rw [if_pos (by omega), if_pos (by omega), if_neg (by omega), if_neg (by omega), if_pos (by omega), if_neg (by omega)]
  · show gGsg k = _; unfold gGsg; rw [if_pos (by omega), if_pos (by omega), if_neg (by omega), if_neg (by omega), if_pos (by omega), if_neg (by omega)]
theorem rs_ROAD {k : Int} (h : 24 ≤ k ∧ k < 60) : gRg 191 k = (0, 99) ∧ gCr 191 k = false ∧ gG 191 k = 46 := by
  refine ⟨?_, rfl, ?_⟩
  · show gRsg k = _; unfold gRsg; rw [if_pos (by omega), if_pos (by omega), if_neg (by omega), if_neg (by omega), if_neg (by omega), if_pos (by omega)]
  · show gGsg k = _; unfold gGsg; rw [if_pos (by omega), if_pos (by omega), if_neg (by omega), if_neg (by omega), if_neg (by omega), if_pos (by omega)]
theorem rs_BED {k : Int} (h : 60 ≤ k ∧ k < 64) : gRg 191 k = (-2147483648, 2147483647) ∧ gCr 191 k = false ∧ gG 191 k = 47 := by
  refine ⟨?_, rfl, ?_⟩
  · show gRsg k = _; unfold gRsg; rw [if_pos (by omega), if_pos (by omega), if_neg (by omega), if_neg (by omega), if_neg (by omega), if_neg (by omega)]
  · show gGsg k = _; unfold gGsg; rw [if_pos (by omega), if_pos (by omega), if_neg (by omega), if_neg (by omega), if_neg (by omega), if_neg (by omega)]
theorem rs_ROOM {k : Int} (h : 64 ≤ k ∧ k < 80) : gRg 191 k = (-2147483648, 2147483647) ∧ gCr 191 k = false ∧ gG 191 k = 48 := by
  refine ⟨?_, rfl, ?_⟩
  · show gRsg k = _; unfold gRsg; rw [if_pos (by omega), if_neg (by omega), if_pos (by omega), if_pos (by omega), if_pos (by omega)]
  · show gGsg k = _; unfold gGsg; rw [if_pos (by omega), if_neg (by omega), if_pos (by omega), if_pos (by omega), if_pos (by omega)]
theorem rs_SEX {k : Int} (h : 80 ≤ k ∧ k < 96) : gRg 191 k = (0, 1) ∧ gCr 191 k = false ∧ gG 191 k = 49 := by
  refine ⟨?_, rfl, ?_⟩
  · show gRsg k = _; unfold gRsg; rw [if_pos (by omega), if_neg (by omega), if_pos (by omega), if_pos (by omega), if_neg (by omega), if_pos (by omega)]
  · show gGsg k = _; unfold gGsg; rw [if_pos (by omega), if_neg (by omega), if_pos (by omega), if_pos (by omega), if_neg (by omega), if_pos (by omega)]
theorem rs_BORN {k : Int} (h : 96 ≤ k ∧ k < 112) : gRg 191 k = (-3000, 300) ∧ gCr 191 k = false ∧ gG 191 k = 49 := by
  refine ⟨?_, rfl, ?_⟩
  · show gRsg k = _; unfold gRsg; rw [if_pos (by omega), if_neg (by omega), if_pos (by omega), if_pos (by omega), if_neg (by omega), if_neg (by omega)]
  · show gGsg k = _; unfold gGsg; rw [if_pos (by omega), if_neg (by omega), if_pos (by omega), if_pos (by omega), if_neg (by omega), if_neg (by omega)]
theorem rs_HOME {k : Int} (h : 112 ≤ k ∧ k < 128) : gRg 191 k = (0, 5) ∧ gCr 191 k = false ∧ gG 191 k = 49 := by
  refine ⟨?_, rfl, ?_⟩
  · show gRsg k = _; unfold gRsg; rw [if_pos (by omega), if_neg (by omega), if_pos (by omega), if_neg (by omega), if_pos (by omega), if_pos (by omega)]
  · show gGsg k = _; unfold gGsg; rw [if_pos (by omega), if_neg (by omega), if_pos (by omega), if_neg (by omega), if_pos (by omega), if_pos (by omega)]
theorem rs_FATHER {k : Int} (h : 128 ≤ k ∧ k < 144) : gRg 191 k = (-1, 15) ∧ gCr 191 k = false ∧ gG 191 k = 49 := by
  refine ⟨?_, rfl, ?_⟩
  · show gRsg k = _; unfold gRsg; rw [if_pos (by omega), if_neg (by omega), if_pos (by omega), if_neg (by omega), if_pos (by omega), if_neg (by omega)]
  · show gGsg k = _; unfold gGsg; rw [if_pos (by omega), if_neg (by omega), if_pos (by omega), if_neg (by omega), if_pos (by omega), if_neg (by omega)]
theorem rs_STRONG {k : Int} (h : 144 ≤ k ∧ k < 160) : gRg 191 k = (-2147483648, 2147483647) ∧ gCr 191 k = false ∧ gG 191 k = 49 := by
  refine ⟨?_, rfl, ?_⟩
  · show gRsg k = _; unfold gRsg; rw [if_pos (by omega), if_neg (by omega), if_pos (by omega), if_neg (by omega), if_neg (by omega), if_pos (by omega)]
  · show gGsg k = _; unfold gGsg; rw [if_pos (by omega), if_neg (by omega), if_pos (by omega), if_neg (by omega), if_neg (by omega), if_pos (by omega)]
theorem rs_AT {k : Int} (h : 160 ≤ k ∧ k < 176) : gRg 191 k = (-1, 8) ∧ gCr 191 k = false ∧ gG 191 k = 50 := by
  refine ⟨?_, rfl, ?_⟩
  · show gRsg k = _; unfold gRsg; rw [if_pos (by omega), if_neg (by omega), if_pos (by omega), if_neg (by omega), if_neg (by omega), if_neg (by omega)]
  · show gGsg k = _; unfold gGsg; rw [if_pos (by omega), if_neg (by omega), if_pos (by omega), if_neg (by omega), if_neg (by omega), if_neg (by omega)]
theorem rs_HUNGER {k : Int} (h : 176 ≤ k ∧ k < 208) : gRg 191 k = (-2147483648, 2147483647) ∧ gCr 191 k = false ∧ gG 191 k = 50 := by
  refine ⟨?_, rfl, ?_⟩
  · show gRsg k = _; unfold gRsg; rw [if_pos (by omega), if_neg (by omega), if_neg (by omega), if_pos (by omega), if_pos (by omega), if_pos (by omega)]
  · show gGsg k = _; unfold gGsg; rw [if_pos (by omega), if_neg (by omega), if_neg (by omega), if_pos (by omega), if_pos (by omega), if_pos (by omega)]
theorem rs_WARD {k : Int} (h : 208 ≤ k ∧ k < 224) : gRg 191 k = (-60, 9999) ∧ gCr 191 k = false ∧ gG 191 k = 50 := by
  refine ⟨?_, rfl, ?_⟩
  · show gRsg k = _; unfold gRsg; rw [if_pos (by omega), if_neg (by omega), if_neg (by omega), if_pos (by omega), if_pos (by omega), if_neg (by omega)]
  · show gGsg k = _; unfold gGsg; rw [if_pos (by omega), if_neg (by omega), if_neg (by omega), if_pos (by omega), if_pos (by omega), if_neg (by omega)]
theorem rs_MASTER {k : Int} (h : 224 ≤ k ∧ k < 240) : gRg 191 k = (-1, 3) ∧ gCr 191 k = false ∧ gG 191 k = 50 := by
  refine ⟨?_, rfl, ?_⟩
  · show gRsg k = _; unfold gRsg; rw [if_pos (by omega), if_neg (by omega), if_neg (by omega), if_pos (by omega), if_neg (by omega), if_pos (by omega)]
  · show gGsg k = _; unfold gGsg; rw [if_pos (by omega), if_neg (by omega), if_neg (by omega), if_pos (by omega), if_neg (by omega), if_pos (by omega)]
theorem rs_CAME {k : Int} (h : 240 ≤ k ∧ k < 256) : gRg 191 k = (-1, 5) ∧ gCr 191 k = false ∧ gG 191 k = 50 := by
  refine ⟨?_, rfl, ?_⟩
  · show gRsg k = _; unfold gRsg; rw [if_pos (by omega), if_neg (by omega), if_neg (by omega), if_pos (by omega), if_neg (by omega), if_neg (by omega)]
  · show gGsg k = _; unfold gGsg; rw [if_pos (by omega), if_neg (by omega), if_neg (by omega), if_pos (by omega), if_neg (by omega), if_neg (by omega)]
theorem rs_RKIND {k : Int} (h : 256 ≤ k ∧ k < 296) : gRg 191 k = (0, 4) ∧ gCr 191 k = false ∧ gG 191 k = 51 := by
  refine ⟨?_, rfl, ?_⟩
  · show gRsg k = _; unfold gRsg; rw [if_pos (by omega), if_neg (by omega), if_neg (by omega), if_neg (by omega), if_pos (by omega), if_pos (by omega)]
  · show gGsg k = _; unfold gGsg; rw [if_pos (by omega), if_neg (by omega), if_neg (by omega), if_neg (by omega), if_pos (by omega), if_pos (by omega)]
theorem rs_RWHO {k : Int} (h : 296 ≤ k ∧ k < 336) : gRg 191 k = (0, 15) ∧ gCr 191 k = false ∧ gG 191 k = 51 := by
  refine ⟨?_, rfl, ?_⟩
  · show gRsg k = _; unfold gRsg; rw [if_pos (by omega), if_neg (by omega), if_neg (by omega), if_neg (by omega), if_pos (by omega), if_neg (by omega)]
  · show gGsg k = _; unfold gGsg; rw [if_pos (by omega), if_neg (by omega), if_neg (by omega), if_neg (by omega), if_pos (by omega), if_neg (by omega)]
theorem rs_RTO {k : Int} (h : 336 ≤ k ∧ k < 376) : gRg 191 k = (0, 15) ∧ gCr 191 k = false ∧ gG 191 k = 51 := by
  refine ⟨?_, rfl, ?_⟩
  · show gRsg k = _; unfold gRsg; rw [if_pos (by omega), if_neg (by omega), if_neg (by omega), if_neg (by omega), if_neg (by omega), if_pos (by omega)]
  · show gGsg k = _; unfold gGsg; rw [if_pos (by omega), if_neg (by omega), if_neg (by omega), if_neg (by omega), if_neg (by omega), if_pos (by omega)]
theorem rs_RN {k : Int} (h : 376 ≤ k ∧ k < 416) : gRg 191 k = (0, 9999) ∧ gCr 191 k = false ∧ gG 191 k = 51 := by
  refine ⟨?_, rfl, ?_⟩
  · show gRsg k = _; unfold gRsg; rw [if_pos (by omega), if_neg (by omega), if_neg (by omega), if_neg (by omega), if_neg (by omega), if_neg (by omega)]
  · show gGsg k = _; unfold gGsg; rw [if_pos (by omega), if_neg (by omega), if_neg (by omega), if_neg (by omega), if_neg (by omega), if_neg (by omega)]
theorem rs_RWEEK {k : Int} (h : 416 ≤ k ∧ k < 456) : gRg 191 k = (-3000, 300) ∧ gCr 191 k = false ∧ gG 191 k = 51 := by
  refine ⟨?_, rfl, ?_⟩
  · show gRsg k = _; unfold gRsg; rw [if_neg (by omega), if_pos (by omega), if_pos (by omega), if_pos (by omega), if_pos (by omega)]
  · show gGsg k = _; unfold gGsg; rw [if_neg (by omega), if_pos (by omega), if_pos (by omega), if_pos (by omega), if_pos (by omega)]
theorem rs_RSURE {k : Int} (h : 456 ≤ k ∧ k < 496) : gRg 191 k = (-2147483648, 2147483647) ∧ gCr 191 k = false ∧ gG 191 k = 51 := by
  refine ⟨?_, rfl, ?_⟩
  · show gRsg k = _; unfold gRsg; rw [if_neg (by omega), if_pos (by omega), if_pos (by omega), if_pos (by omega), if_neg (by omega), if_pos (by omega)]
  · show gGsg k = _; unfold gGsg; rw [if_neg (by omega), if_pos (by omega), if_pos (by omega), if_pos (by omega), if_neg (by omega), if_pos (by omega)]
theorem rs_EKIND {k : Int} (h : 496 ≤ k ∧ k < 576) : gRg 191 k = (-2147483648, 2147483647) ∧ gCr 191 k = false ∧ gG 191 k = 87 := by
  refine ⟨?_, rfl, ?_⟩
  · show gRsg k = _; unfold gRsg; rw [if_neg (by omega), if_pos (by omega), if_pos (by omega), if_pos (by omega), if_neg (by omega), if_neg (by omega)]
  · show gGsg k = _; unfold gGsg; rw [if_neg (by omega), if_pos (by omega), if_pos (by omega), if_pos (by omega), if_neg (by omega), if_neg (by omega)]
theorem rs_ERIGHT {k : Int} (h : 576 ≤ k ∧ k < 656) : gRg 191 k = (0, 39) ∧ gCr 191 k = false ∧ gG 191 k = 87 := by
  refine ⟨?_, rfl, ?_⟩
  · show gRsg k = _; unfold gRsg; rw [if_neg (by omega), if_pos (by omega), if_pos (by omega), if_neg (by omega), if_pos (by omega), if_pos (by omega)]
  · show gGsg k = _; unfold gGsg; rw [if_neg (by omega), if_pos (by omega), if_pos (by omega), if_neg (by omega), if_pos (by omega), if_pos (by omega)]
theorem rs_AWEEK {k : Int} (h : 656 ≤ k ∧ k < 668) : gRg 191 k = (0, 300) ∧ gCr 191 k = false ∧ gG 191 k = 52 := by
  refine ⟨?_, rfl, ?_⟩
  · show gRsg k = _; unfold gRsg; rw [if_neg (by omega), if_pos (by omega), if_pos (by omega), if_neg (by omega), if_pos (by omega), if_neg (by omega)]
  · show gGsg k = _; unfold gGsg; rw [if_neg (by omega), if_pos (by omega), if_pos (by omega), if_neg (by omega), if_pos (by omega), if_neg (by omega)]
theorem rs_ALONG {k : Int} (h : 668 ≤ k ∧ k < 680) : gRg 191 k = (0, 150) ∧ gCr 191 k = false ∧ gG 191 k = 52 := by
  refine ⟨?_, rfl, ?_⟩
  · show gRsg k = _; unfold gRsg; rw [if_neg (by omega), if_pos (by omega), if_pos (by omega), if_neg (by omega), if_neg (by omega), if_pos (by omega)]
  · show gGsg k = _; unfold gGsg; rw [if_neg (by omega), if_pos (by omega), if_pos (by omega), if_neg (by omega), if_neg (by omega), if_pos (by omega)]
theorem rs_ATEXT {k : Int} (h : 680 ≤ k ∧ k < 2340) : gRg 191 k = (0, 255) ∧ gCr 191 k = false ∧ gG 191 k = 52 := by
  refine ⟨?_, rfl, ?_⟩
  · show gRsg k = _; unfold gRsg; rw [if_neg (by omega), if_pos (by omega), if_pos (by omega), if_neg (by omega), if_neg (by omega), if_neg (by omega)]
  · show gGsg k = _; unfold gGsg; rw [if_neg (by omega), if_pos (by omega), if_pos (by omega), if_neg (by omega), if_neg (by omega), if_neg (by omega)]
theorem rs_OWHO {k : Int} (h : 2340 ≤ k ∧ k < 2360) : gRg 191 k = (0, 15) ∧ gCr 191 k = false ∧ gG 191 k = 53 := by
  refine ⟨?_, rfl, ?_⟩
  · show gRsg k = _; unfold gRsg; rw [if_neg (by omega), if_pos (by omega), if_neg (by omega), if_pos (by omega), if_pos (by omega)]
  · show gGsg k = _; unfold gGsg; rw [if_neg (by omega), if_pos (by omega), if_neg (by omega), if_pos (by omega), if_pos (by omega)]
theorem rs_OFROM {k : Int} (h : 2360 ≤ k ∧ k < 2380) : gRg 191 k = (-1, 5) ∧ gCr 191 k = false ∧ gG 191 k = 53 := by
  refine ⟨?_, rfl, ?_⟩
  · show gRsg k = _; unfold gRsg; rw [if_neg (by omega), if_pos (by omega), if_neg (by omega), if_pos (by omega), if_neg (by omega), if_pos (by omega)]
  · show gGsg k = _; unfold gGsg; rw [if_neg (by omega), if_pos (by omega), if_neg (by omega), if_pos (by omega), if_neg (by omega), if_pos (by omega)]
theorem rs_OTO {k : Int} (h : 2380 ≤ k ∧ k < 2400) : gRg 191 k = (0, 5) ∧ gCr 191 k = false ∧ gG 191 k = 53 := by
  refine ⟨?_, rfl, ?_⟩
  · show gRsg k = _; unfold gRsg; rw [if_neg (by omega), if_pos (by omega), if_neg (by omega), if_pos (by omega), if_neg (by omega), if_neg (by omega)]
  · show gGsg k = _; unfold gGsg; rw [if_neg (by omega), if_pos (by omega), if_neg (by omega), if_pos (by omega), if_neg (by omega), if_neg (by omega)]
theorem rs_OWEEK {k : Int} (h : 2400 ≤ k ∧ k < 2420) : gRg 191 k = (0, 300) ∧ gCr 191 k = false ∧ gG 191 k = 53 := by
  refine ⟨?_, rfl, ?_⟩
  · show gRsg k = _; unfold gRsg; rw [if_neg (by omega), if_pos (by omega), if_neg (by omega), if_neg (by omega), if_pos (by omega), if_pos (by omega)]
  · show gGsg k = _; unfold gGsg; rw [if_neg (by omega), if_pos (by omega), if_neg (by omega), if_neg (by omega), if_pos (by omega), if_pos (by omega)]
theorem rs_ODONE {k : Int} (h : 2420 ≤ k ∧ k < 2440) : gRg 191 k = (-2147483648, 2147483647) ∧ gCr 191 k = false ∧ gG 191 k = 89 := by
  refine ⟨?_, rfl, ?_⟩
  · show gRsg k = _; unfold gRsg; rw [if_neg (by omega), if_pos (by omega), if_neg (by omega), if_neg (by omega), if_pos (by omega), if_neg (by omega)]
  · show gGsg k = _; unfold gGsg; rw [if_neg (by omega), if_pos (by omega), if_neg (by omega), if_neg (by omega), if_pos (by omega), if_neg (by omega)]
theorem rs_NNAME {k : Int} (h : 2440 ≤ k ∧ k < 2480) : gRg 191 k = (0, 7) ∧ gCr 191 k = false ∧ gG 191 k = 54 := by
  refine ⟨?_, rfl, ?_⟩
  · show gRsg k = _; unfold gRsg; rw [if_neg (by omega), if_pos (by omega), if_neg (by omega), if_neg (by omega), if_neg (by omega), if_pos (by omega)]
  · show gGsg k = _; unfold gGsg; rw [if_neg (by omega), if_pos (by omega), if_neg (by omega), if_neg (by omega), if_neg (by omega), if_pos (by omega)]
theorem rs_NAT {k : Int} (h : 2480 ≤ k ∧ k < 2520) : gRg 191 k = (0, 5) ∧ gCr 191 k = false ∧ gG 191 k = 54 := by
  refine ⟨?_, rfl, ?_⟩
  · show gRsg k = _; unfold gRsg; rw [if_neg (by omega), if_pos (by omega), if_neg (by omega), if_neg (by omega), if_neg (by omega), if_neg (by omega)]
  · show gGsg k = _; unfold gGsg; rw [if_neg (by omega), if_pos (by omega), if_neg (by omega), if_neg (by omega), if_neg (by omega), if_neg (by omega)]
theorem rs_NWEEK {k : Int} (h : 2520 ≤ k ∧ k < 2560) : gRg 191 k = (0, 300) ∧ gCr 191 k = false ∧ gG 191 k = 54 := by
  refine ⟨?_, rfl, ?_⟩
  · show gRsg k = _; unfold gRsg; rw [if_neg (by omega), if_neg (by omega), if_pos (by omega), if_pos (by omega), if_pos (by omega)]
  · show gGsg k = _; unfold gGsg; rw [if_neg (by omega), if_neg (by omega), if_pos (by omega), if_pos (by omega), if_pos (by omega)]
theorem rs_CK {k : Int} (h : 2560 ≤ k ∧ k < 2566) : gRg 191 k = (0, 4) ∧ gCr 191 k = false ∧ gG 191 k = 55 := by
  refine ⟨?_, rfl, ?_⟩
  · show gRsg k = _; unfold gRsg; rw [if_neg (by omega), if_neg (by omega), if_pos (by omega), if_pos (by omega), if_neg (by omega), if_pos (by omega)]
  · show gGsg k = _; unfold gGsg; rw [if_neg (by omega), if_neg (by omega), if_pos (by omega), if_pos (by omega), if_neg (by omega), if_pos (by omega)]
theorem rs_CN {k : Int} (h : 2566 ≤ k ∧ k < 2580) : gRg 191 k = (-2147483648, 2147483647) ∧ gCr 191 k = false ∧ gG 191 k = 55 := by
  refine ⟨?_, rfl, ?_⟩
  · show gRsg k = _; unfold gRsg; rw [if_neg (by omega), if_neg (by omega), if_pos (by omega), if_pos (by omega), if_neg (by omega), if_neg (by omega)]
  · show gGsg k = _; unfold gGsg; rw [if_neg (by omega), if_neg (by omega), if_pos (by omega), if_pos (by omega), if_neg (by omega), if_neg (by omega)]
theorem rs_FMANY {k : Int} (h : 2580 ≤ k ∧ k < 2584) : gRg 191 k = (0, 10) ∧ gCr 191 k = false ∧ gG 191 k = 56 := by
  refine ⟨?_, rfl, ?_⟩
  · show gRsg k = _; unfold gRsg; rw [if_neg (by omega), if_neg (by omega), if_pos (by omega), if_neg (by omega), if_pos (by omega), if_pos (by omega)]
  · show gGsg k = _; unfold gGsg; rw [if_neg (by omega), if_neg (by omega), if_pos (by omega), if_neg (by omega), if_pos (by omega), if_pos (by omega)]
theorem rs_FROW {k : Int} (h : 2584 ≤ k ∧ k < 2620) : gRg 191 k = (-2147483648, 2147483647) ∧ gCr 191 k = false ∧ gG 191 k = 56 := by
  refine ⟨?_, rfl, ?_⟩
  · show gRsg k = _; unfold gRsg; rw [if_neg (by omega), if_neg (by omega), if_pos (by omega), if_neg (by omega), if_pos (by omega), if_neg (by omega)]
  · show gGsg k = _; unfold gGsg; rw [if_neg (by omega), if_neg (by omega), if_pos (by omega), if_neg (by omega), if_pos (by omega), if_neg (by omega)]
theorem rs_TAPE {k : Int} (h : 2620 ≤ k ∧ k < 2770) : gRg 191 k = (0, 255) ∧ gCr 191 k = false ∧ gG 191 k = 57 := by
  refine ⟨?_, rfl, ?_⟩
  · show gRsg k = _; unfold gRsg; rw [if_neg (by omega), if_neg (by omega), if_pos (by omega), if_neg (by omega), if_neg (by omega), if_pos (by omega)]
  · show gGsg k = _; unfold gGsg; rw [if_neg (by omega), if_neg (by omega), if_pos (by omega), if_neg (by omega), if_neg (by omega), if_pos (by omega)]
theorem rs_TOLD {k : Int} (h : 2770 ≤ k ∧ k < 2800) : gRg 191 k = (-2147483648, 2147483647) ∧ gCr 191 k = false ∧ gG 191 k = 58 := by
  refine ⟨?_, rfl, ?_⟩
  · show gRsg k = _; unfold gRsg; rw [if_neg (by omega), if_neg (by omega), if_pos (by omega), if_neg (by omega), if_neg (by omega), if_neg (by omega)]
  · show gGsg k = _; unfold gGsg; rw [if_neg (by omega), if_neg (by omega), if_pos (by omega), if_neg (by omega), if_neg (by omega), if_neg (by omega)]
theorem rs_FROST {k : Int} (h : 2800 ≤ k ∧ k < 3200) : gRg 191 k = (-2147483648, 2147483647) ∧ gCr 191 k = false ∧ gG 191 k = 59 := by
  refine ⟨?_, rfl, ?_⟩
  · show gRsg k = _; unfold gRsg; rw [if_neg (by omega), if_neg (by omega), if_neg (by omega), if_pos (by omega), if_pos (by omega), if_pos (by omega)]
  · show gGsg k = _; unfold gGsg; rw [if_neg (by omega), if_neg (by omega), if_neg (by omega), if_pos (by omega), if_pos (by omega), if_pos (by omega)]
theorem rs_G {k : Int} (h : 3200 ≤ k ∧ k < 5400) : gRg 191 k = (-2147483648, 2147483647) ∧ gCr 191 k = false ∧ gG 191 k = 60 := by
  refine ⟨?_, rfl, ?_⟩
  · show gRsg k = _; unfold gRsg; rw [if_neg (by omega), if_neg (by omega), if_neg (by omega), if_pos (by omega), if_pos (by omega), if_neg (by omega)]
  · show gGsg k = _; unfold gGsg; rw [if_neg (by omega), if_neg (by omega), if_neg (by omega), if_pos (by omega), if_pos (by omega), if_neg (by omega)]
theorem rs_W {k : Int} (h : 5400 ≤ k ∧ k < 24700) : gRg 191 k = (-2147483648, 2147483647) ∧ gCr 191 k = false ∧ gG 191 k = 62 := by
  refine ⟨?_, rfl, ?_⟩
  · show gRsg k = _; unfold gRsg; rw [if_neg (by omega), if_neg (by omega), if_neg (by omega), if_pos (by omega), if_neg (by omega), if_pos (by omega)]
  · show gGsg k = _; unfold gGsg; rw [if_neg (by omega), if_neg (by omega), if_neg (by omega), if_pos (by omega), if_neg (by omega), if_pos (by omega)]
theorem rs_LCOUNT {k : Int} (h : 24700 ≤ k ∧ k < 24720) : gRg 191 k = (0, 8) ∧ gCr 191 k = false ∧ gG 191 k = 52 := by
  refine ⟨?_, rfl, ?_⟩
  · show gRsg k = _; unfold gRsg; rw [if_neg (by omega), if_neg (by omega), if_neg (by omega), if_pos (by omega), if_neg (by omega), if_neg (by omega)]
  · show gGsg k = _; unfold gGsg; rw [if_neg (by omega), if_neg (by omega), if_neg (by omega), if_pos (by omega), if_neg (by omega), if_neg (by omega)]
theorem rs_LWORD {k : Int} (h : 24720 ≤ k ∧ k < 24810) : gRg 191 k = (0, 9) ∧ gCr 191 k = false ∧ gG 191 k = 52 := by
  refine ⟨?_, rfl, ?_⟩
  · show gRsg k = _; unfold gRsg; rw [if_neg (by omega), if_neg (by omega), if_neg (by omega), if_neg (by omega), if_pos (by omega), if_pos (by omega)]
  · show gGsg k = _; unfold gGsg; rw [if_neg (by omega), if_neg (by omega), if_neg (by omega), if_neg (by omega), if_pos (by omega), if_pos (by omega)]
theorem rs_LVALUE {k : Int} (h : 24810 ≤ k ∧ k < 24900) : gRg 191 k = (-60, 9999) ∧ gCr 191 k = false ∧ gG 191 k = 52 := by
  refine ⟨?_, rfl, ?_⟩
  · show gRsg k = _; unfold gRsg; rw [if_neg (by omega), if_neg (by omega), if_neg (by omega), if_neg (by omega), if_pos (by omega), if_neg (by omega)]
  · show gGsg k = _; unfold gGsg; rw [if_neg (by omega), if_neg (by omega), if_neg (by omega), if_neg (by omega), if_pos (by omega), if_neg (by omega)]
theorem rs_LSPOT {k : Int} (h : 24900 ≤ k ∧ k < 25000) : gRg 191 k = (-1, 150) ∧ gCr 191 k = false ∧ gG 191 k = 52 := by
  refine ⟨?_, rfl, ?_⟩
  · show gRsg k = _; unfold gRsg; rw [if_neg (by omega), if_neg (by omega), if_neg (by omega), if_neg (by omega), if_neg (by omega), if_pos (by omega)]
  · show gGsg k = _; unfold gGsg; rw [if_neg (by omega), if_neg (by omega), if_neg (by omega), if_neg (by omega), if_neg (by omega), if_pos (by omega)]
theorem rs_GPERS {k : Int} (h : 25000 ≤ k ∧ k < 25301) : gRg 191 k = (0, 16) ∧ gCr 191 k = false ∧ gG 191 k = 61 := by
  refine ⟨?_, rfl, ?_⟩
  · show gRsg k = _; unfold gRsg; rw [if_neg (by omega), if_neg (by omega), if_neg (by omega), if_neg (by omega), if_neg (by omega), if_neg (by omega)]
  · show gGsg k = _; unfold gGsg; rw [if_neg (by omega), if_neg (by omega), if_neg (by omega), if_neg (by omega), if_neg (by omega), if_neg (by omega)]
theorem gA5 {sz : Nat} {M : gM} (I : gI sz M) (hsz : 206 ≤ sz) {i o : Int} (h0 : 0 ≤ i) (h1 : i < 16) (ho : o = 31 + i) : M 5 i = o + 1 := by
  have h2 := I 5 i (by omega) (by omega)
  have hr : gRg 5 i = (32 + i + 0, 32 + i + 0) := by show (if i < 0 then ((0, 0) : Int × Int) else if i < 16 then _ else _) = _; rw [if_neg (by omega), if_pos h1]; rfl
  rw [hr] at h2
  have h3 : 32 + i + 0 ≤ M 5 i ∧ M 5 i ≤ 32 + i + 0 := h2
  omega
theorem gA6 {sz : Nat} {M : gM} (I : gI sz M) (hsz : 206 ≤ sz) {i o : Int} (h0 : 0 ≤ i) (h1 : i < 40) (ho : o = 47 + i) : M 6 i = o + 1 := by
  have h2 := I 6 i (by omega) (by omega)
  have hr : gRg 6 i = (48 + i + 0, 48 + i + 0) := by show (if i < 0 then ((0, 0) : Int × Int) else if i < 40 then _ else _) = _; rw [if_neg (by omega), if_pos h1]; rfl
  rw [hr] at h2
  have h3 : 48 + i + 0 ≤ M 6 i ∧ M 6 i ≤ 48 + i + 0 := h2
  omega
theorem gA7 {sz : Nat} {M : gM} (I : gI sz M) (hsz : 206 ≤ sz) {i o : Int} (h0 : 0 ≤ i) (h1 : i < 11) (ho : o = 87 + 6 * i) : M 7 i = o + 1 := by
  have h2 := I 7 i (by omega) (by omega)
  have hr : gRg 7 i = (88 + 6 * i + 0, 88 + 6 * i + 0) := by show (if i < 0 then ((0, 0) : Int × Int) else if i < 11 then _ else _) = _; rw [if_neg (by omega), if_pos h1]; rfl
  rw [hr] at h2
  have h3 : 88 + 6 * i + 0 ≤ M 7 i ∧ M 7 i ≤ 88 + 6 * i + 0 := h2
  omega
/-- what the reference's persons, rights, orders and weeks are to each other, in an array A like its own -/
def gW (A : Int) (M : gM) : Prop := (∀ p : Int, 0 ≤ p → p < M A 1 → M A (p + 128) < p ∧ (0 ≤ M A (p + 128) → M A (M A (p + 128) + 80) = 0)) ∧ (∀ r : Int, 0 ≤ r → r < 40 → (M A (r + 256) = 3 ∨ M A (r + 336) ≤ 5) ∧ (M A (r + 256) = 3 → M A (r + 336) < M A 1 ∧ M A (M A (r + 336) + 80) = 0 ∧ M A (M A (r + 296) + 80) = 1 ∧ M A (r + 296) < M A 1)) ∧ (∀ o : Int, 0 ≤ o → o < M A 5 → M A (o + 2340) < M A 1) ∧ (∀ w : Int, 0 ≤ w → w < M A 0 → M A (w + 25000) ≤ M A 1)
def gWM : Nat := 2317665611070570496
theorem gW.fr {S : Nat} {M M1 : gM} (W : gW 191 M) (I : ∃ sz, 206 ≤ sz ∧ gI sz M) (F : gFr S M M1) (h : S &&& gWM = 0) : gW 191 M1 := by
  have hb : ∀ g : Nat, gWM.testBit g = true → S.testBit g = false := by
    intro g hg
    have h1 : (S &&& gWM).testBit g = (S.testBit g && gWM.testBit g) := Nat.testBit_and S gWM g
    rw [h, hg, Bool.and_true, Nat.zero_testBit] at h1
    exact h1.symm
  obtain ⟨sz, hsz, I⟩ := I
  have e : ∀ k : Int, ((0 ≤ k ∧ k < 2) ∨ (5 ≤ k ∧ k < 6) ∨ (80 ≤ k ∧ k < 96) ∨ (128 ≤ k ∧ k < 144) ∨ (256 ≤ k ∧ k < 376) ∨ (2340 ≤ k ∧ k < 2360) ∨ (25000 ≤ k ∧ k < 25301)) → M1 191 k = M 191 k := by
    intro k hk
    apply F
    rcases (by omega : (k = 0) ∨ (k = 1) ∨ (k = 5) ∨ (80 ≤ k ∧ k < 96) ∨ (128 ≤ k ∧ k < 144) ∨ (256 ≤ k ∧ k < 296) ∨ (296 ≤ k ∧ k < 336) ∨ (336 ≤ k ∧ k < 376) ∨ (2340 ≤ k ∧ k < 2360) ∨ (25000 ≤ k ∧ k < 25301)) with h | h | h | h | h | h | h | h | h | h
    · rw [(rs_NOW (by omega)).2.2]; exact hb _ (by decide +kernel)
    · rw [(rs_PERS (by omega)).2.2]; exact hb _ (by decide +kernel)
    · rw [(rs_NO (by omega)).2.2]; exact hb _ (by decide +kernel)
    · rw [(rs_SEX h).2.2]; exact hb _ (by decide +kernel)
    · rw [(rs_FATHER h).2.2]; exact hb _ (by decide +kernel)
    · rw [(rs_RKIND h).2.2]; exact hb _ (by decide +kernel)
    · rw [(rs_RWHO h).2.2]; exact hb _ (by decide +kernel)
    · rw [(rs_RTO h).2.2]; exact hb _ (by decide +kernel)
    · rw [(rs_OWHO h).2.2]; exact hb _ (by decide +kernel)
    · rw [(rs_GPERS h).2.2]; exact hb _ (by decide +kernel)
  have b1 := gRd I (by decide) (gsz hsz (by decide)) (rs_PERS (k := 1) (by omega)).1
  have b2 := gRd I (by decide) (gsz hsz (by decide)) (rs_NO (k := 5) (by omega)).1
  have b3 := gRd I (by decide) (gsz hsz (by decide)) (rs_NOW (k := 0) (by omega)).1
  obtain ⟨v1, h1, r1⟩ := b1
  obtain ⟨v2, h2, r2⟩ := b2
  obtain ⟨v3, h3, r3⟩ := b3
  refine ⟨fun p p0 p1 => ?_, fun r r0 r1' => ?_, fun o o0 o1 => ?_, fun w w0 w1 => ?_⟩
  · rw [e 1 (by omega)] at p1
    have hW := W.1 p p0 p1
    rw [e (p + 128) (by omega)]
    refine ⟨hW.1, fun q => ?_⟩
    rw [e (M 191 (p + 128) + 80) (by omega)]
    exact hW.2 q
  · have hW := W.2.1 r r0 r1'
    obtain ⟨f1, g1, k1⟩ := gRd I (by decide) (gsz hsz (by decide)) (rs_RTO (k := r + 336) (by omega)).1
    obtain ⟨f2, g2, k2⟩ := gRd I (by decide) (gsz hsz (by decide)) (rs_RWHO (k := r + 296) (by omega)).1
    rw [e (r + 256) (by omega), e (r + 336) (by omega), e (r + 296) (by omega), e 1 (by omega), e (M 191 (r + 336) + 80) (by omega), e (M 191 (r + 296) + 80) (by omega)]
    exact hW
  · rw [e 5 (by omega)] at o1
    rw [e (o + 2340) (by omega), e 1 (by omega)]
    exact W.2.2.1 o o0 o1
  · rw [e 0 (by omega)] at w1
    rw [e (w + 25000) (by omega), e 1 (by omega)]
    exact W.2.2.2 w w0 w1

theorem gW.eq {A B : Int} {sz : Nat} {M M1 : gM} (W : gW A M) (I : gI sz M) (hA : 0 ≤ A ∧ A < (sz : Int)) (hr : ∀ k : Int, gRg A k = gRg 191 k) (E : ∀ b : Int, 0 ≤ b → b < 25301 → M1 B b = M A b) : gW B M1 := by
  obtain ⟨v1, h1, r1⟩ := gRd I hA.1 hA.2 ((hr 1).trans (rs_PERS (k := 1) (by omega)).1)
  obtain ⟨v2, h2, r2⟩ := gRd I hA.1 hA.2 ((hr 5).trans (rs_NO (k := 5) (by omega)).1)
  obtain ⟨v3, h3, r3⟩ := gRd I hA.1 hA.2 ((hr 0).trans (rs_NOW (k := 0) (by omega)).1)
  refine ⟨fun p p0 p1 => ?_, fun r r0 r1' => ?_, fun o o0 o1 => ?_, fun w w0 w1 => ?_⟩
  · rw [E 1 (by omega) (by omega)] at p1
    have hW := W.1 p p0 p1
    rw [E (p + 128) (by omega) (by omega)]
    refine ⟨hW.1, fun q => ?_⟩
    rw [E (M A (p + 128) + 80) (by omega) (by omega)]
    exact hW.2 q
  · have hW := W.2.1 r r0 r1'
    obtain ⟨f1, g1, k1⟩ := gRd I hA.1 hA.2 ((hr (r + 336)).trans (rs_RTO (k := r + 336) (by omega)).1)
    obtain ⟨f2, g2, k2⟩ := gRd I hA.1 hA.2 ((hr (r + 296)).trans (rs_RWHO (k := r + 296) (by omega)).1)
    rw [E (r + 256) (by omega) (by omega), E (r + 336) (by omega) (by omega), E (r + 296) (by omega) (by omega), E 1 (by omega) (by omega), E (M A (r + 336) + 80) (by omega) (by omega), E (M A (r + 296) + 80) (by omega) (by omega)]
    exact hW
  · rw [E 5 (by omega) (by omega)] at o1
    rw [E (o + 2340) (by omega) (by omega), E 1 (by omega) (by omega)]
    exact W.2.2.1 o o0 o1
  · rw [E 0 (by omega) (by omega)] at w1
    rw [E (w + 25000) (by omega) (by omega), E 1 (by omega) (by omega)]
    exact W.2.2.2 w w0 w1
theorem gW.goes {sz : Nat} {M M2 M1 : gM} {w v u : Int} (hsz : 206 ≤ sz) (I : gI sz M) (W : gW 191 M) (hw : M 191 0 = w) (hw0 : 0 ≤ w ∧ w ≤ 299) (hv : M 191 1 = v) (e1 : M2 = gset M 191 (w + 25000) v) (e2 : M1 = gset M2 191 0 u) (hu : u = w + 1) (hp : 0 ≤ v ∧ v ≤ 16) : gW 191 M1 := by
  have q : ∀ k : Int, ¬ k = 0 → ¬ k = w + 25000 → M1 191 k = M 191 k := fun k h0 h1 => by rw [e2, gset_ne (fun h => h0 h.2), e1, gset_ne (fun h => h1 h.2)]
  have q0 : M1 191 0 = w + 1 := by rw [e2, gset_eq]; exact hu
  have qw : M1 191 (w + 25000) = v := by rw [e2, gset_ne (by omega), e1, gset_eq]
  refine ⟨fun p p0 p1 => ?_, fun r r0 r1 => ?_, fun o o0 o1 => ?_, fun x x0 x1 => ?_⟩
  · rw [q 1 (by omega) (by omega)] at p1
    have hW := W.1 p p0 p1
    rw [q (p + 128) (by omega) (by omega)]
    refine ⟨hW.1, fun z => ?_⟩
    obtain ⟨f1, g1, k1⟩ := gRd I (by decide) (gsz hsz (by decide)) (rs_FATHER (k := p + 128) (by have hx := p1; rw [hv] at hx; omega)).1
    rw [q (M 191 (p + 128) + 80) (by omega) (by omega)]
    exact hW.2 z
  · have hW := W.2.1 r r0 r1
    rw [q (r + 256) (by omega) (by omega), q (r + 336) (by omega) (by omega), q (r + 296) (by omega) (by omega), q 1 (by omega) (by omega)]
    refine ⟨hW.1, fun z => ?_⟩
    have h3 := hW.2 z
    refine ⟨h3.1, ?_, ?_, h3.2.2.2⟩
    · by_cases g : M 191 (r + 336) + 80 = 0 ∨ M 191 (r + 336) + 80 = w + 25000
      · exfalso; obtain ⟨f1, g1, k1⟩ := gRd I (by decide) (gsz hsz (by decide)) (rs_RTO (k := r + 336) (by omega)).1; omega
      · rw [q _ (by omega) (by omega)]; exact h3.2.1
    · by_cases g : M 191 (r + 296) + 80 = 0 ∨ M 191 (r + 296) + 80 = w + 25000
      · exfalso; obtain ⟨f1, g1, k1⟩ := gRd I (by decide) (gsz hsz (by decide)) (rs_RWHO (k := r + 296) (by omega)).1; omega
      · rw [q _ (by omega) (by omega)]; exact h3.2.2.1
  · rw [q 5 (by omega) (by omega)] at o1
    have hW := W.2.2.1 o o0 o1
    rw [q 1 (by omega) (by omega)]
    by_cases g : o + 2340 = w + 25000
    · exfalso; obtain ⟨f1, g1, k1⟩ := gRd I (by decide) (gsz hsz (by decide)) (rs_NO (k := 5) (by omega)).1; omega
    · rw [q _ (by omega) g]; exact hW
  · rw [q0] at x1
    rw [q 1 (by omega) (by omega)]
    by_cases g : x = w
    · rw [g, qw, hv]; omega
    · rw [q _ (by omega) (by omega)]; exact W.2.2.2 x x0 (by omega)

