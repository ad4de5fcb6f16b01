theorem n0 {b0 : Int32} {w : Wd} : CALL 0 [.int b0] w = RUN 0 0 [some (.int b0)] [] [] w := CALL_run 0 _ w
theorem n1 {b0 b1 : Int32} {w : Wd} : CALL 1 [.int b0, .int b1] w = RUN 1 0 [some (.int b0), some (.int b1), none, none] [] [] w := CALL_run 1 _ w
theorem n2 {b0 b1 b2 : Int32} {w : Wd} : CALL 2 [.int b0, .int b1, .int b2] w = RUN 2 0 [some (.int b0), some (.int b1), some (.int b2)] [] [] w := CALL_run 2 _ w
theorem n3 {b0 : Int32} {w : Wd} : CALL 3 [.int b0] w = RUN 3 0 [some (.int b0)] [] [] w := CALL_run 3 _ w
theorem n4 {b0 b1 : Int32} {w : Wd} : CALL 4 [.int b0, .int b1] w = RUN 4 0 [some (.int b0), some (.int b1)] [] [] w := CALL_run 4 _ w
theorem n5 {b0 b1 b2 : Int32} {w : Wd} : CALL 5 [.int b0, .int b1, .int b2] w = RUN 5 0 [some (.int b0), some (.int b1), some (.int b2)] [] [] w := CALL_run 5 _ w
theorem n6 {b0 : Int32} {w : Wd} : CALL 6 [.int b0] w = RUN 6 0 [some (.int b0)] [] [] w := CALL_run 6 _ w
theorem n7 {b0 b1 : Nat} {w : Wd} : CALL 7 [.ref b0, .ref b1] w = RUN 7 0 [some (.ref b0), some (.ref b1)] [] [] w := CALL_run 7 _ w
theorem n8 {b0 : Nat} {w : Wd} : CALL 8 [.ref b0] w = RUN 8 0 [some (.ref b0)] [] [] w := CALL_run 8 _ w
theorem n9 {b0 : Nat} {b1 b2 b3 : Int32} {w : Wd} : CALL 9 [.ref b0, .int b1, .int b2, .int b3] w = RUN 9 0 [some (.ref b0), some (.int b1), some (.int b2), some (.int b3), none] [] [] w := CALL_run 9 _ w
theorem n10 {b0 : Nat} {b1 : Int32} {w : Wd} : CALL 10 [.ref b0, .int b1] w = RUN 10 0 [some (.ref b0), some (.int b1)] [] [] w := CALL_run 10 _ w
theorem n11 {b0 : Nat} {b1 : Int32} {w : Wd} : CALL 11 [.ref b0, .int b1] w = RUN 11 0 [some (.ref b0), some (.int b1)] [] [] w := CALL_run 11 _ w
theorem n12 {b0 : Nat} {b1 : Int32} {w : Wd} : CALL 12 [.ref b0, .int b1] w = RUN 12 0 [some (.ref b0), some (.int b1)] [] [] w := CALL_run 12 _ w
theorem n13 {b0 : Nat} {b1 : Int32} {w : Wd} : CALL 13 [.ref b0, .int b1] w = RUN 13 0 [some (.ref b0), some (.int b1)] [] [] w := CALL_run 13 _ w
theorem n14 {b0 : Nat} {b1 b2 : Int32} {w : Wd} : CALL 14 [.ref b0, .int b1, .int b2] w = RUN 14 0 [some (.ref b0), some (.int b1), some (.int b2)] [] [] w := CALL_run 14 _ w
theorem n15 {b0 : Nat} {w : Wd} : CALL 15 [.ref b0] w = RUN 15 0 [some (.ref b0)] [] [] w := CALL_run 15 _ w
theorem n16 {b0 : Nat} {b1 b2 : Int32} {w : Wd} : CALL 16 [.ref b0, .int b1, .int b2] w = RUN 16 0 [some (.ref b0), some (.int b1), some (.int b2), none] [] [] w := CALL_run 16 _ w
theorem n17 {b0 : Nat} {b1 : Int32} {w : Wd} : CALL 17 [.ref b0, .int b1] w = RUN 17 0 [some (.ref b0), some (.int b1), none] [] [] w := CALL_run 17 _ w
theorem n18 {b0 : Nat} {b1 b2 b3 : Int32} {w : Wd} : CALL 18 [.ref b0, .int b1, .int b2, .int b3] w = RUN 18 0 [some (.ref b0), some (.int b1), some (.int b2), some (.int b3), none, none, none] [] [] w := CALL_run 18 _ w
theorem n19 {b0 : Nat} {b1 b2 b3 : Int32} {w : Wd} : CALL 19 [.ref b0, .int b1, .int b2, .int b3] w = RUN 19 0 [some (.ref b0), some (.int b1), some (.int b2), some (.int b3), none, none] [] [] w := CALL_run 19 _ w
theorem n20 {b0 : Nat} {b1 : Int32} {w : Wd} : CALL 20 [.ref b0, .int b1] w = RUN 20 0 [some (.ref b0), some (.int b1), none, none, none] [] [] w := CALL_run 20 _ w
theorem n21 {b0 : Nat} {w : Wd} : CALL 21 [.ref b0] w = RUN 21 0 [some (.ref b0), none] [] [] w := CALL_run 21 _ w
theorem n22 {b0 : Nat} {b1 : Int32} {w : Wd} : CALL 22 [.ref b0, .int b1] w = RUN 22 0 [some (.ref b0), some (.int b1), none, none, none] [] [] w := CALL_run 22 _ w
theorem n23 {b0 : Nat} {w : Wd} : CALL 23 [.ref b0] w = RUN 23 0 [some (.ref b0), none, none] [] [] w := CALL_run 23 _ w
theorem n24 {b0 : Nat} {w : Wd} : CALL 24 [.ref b0] w = RUN 24 0 [some (.ref b0), none, none] [] [] w := CALL_run 24 _ w
theorem n25 {b0 : Nat} {w : Wd} : CALL 25 [.ref b0] w = RUN 25 0 [some (.ref b0), none, none] [] [] w := CALL_run 25 _ w
theorem n26 {b0 : Nat} {w : Wd} : CALL 26 [.ref b0] w = RUN 26 0 [some (.ref b0), none, none] [] [] w := CALL_run 26 _ w
theorem n27 {b0 : Nat} {w : Wd} : CALL 27 [.ref b0] w = RUN 27 0 [some (.ref b0), none, none] [] [] w := CALL_run 27 _ w
theorem n28 {b0 : Nat} {w : Wd} : CALL 28 [.ref b0] w = RUN 28 0 [some (.ref b0)] [] [] w := CALL_run 28 _ w
theorem n29 {b0 : Nat} {b1 b2 : Int32} {w : Wd} : CALL 29 [.ref b0, .int b1, .int b2] w = RUN 29 0 [some (.ref b0), some (.int b1), some (.int b2), none] [] [] w := CALL_run 29 _ w
theorem n30 {b0 : Nat} {b1 : Int32} {w : Wd} : CALL 30 [.ref b0, .int b1] w = RUN 30 0 [some (.ref b0), some (.int b1)] [] [] w := CALL_run 30 _ w
theorem n31 {b0 : Nat} {b1 b2 : Int32} {w : Wd} : CALL 31 [.ref b0, .int b1, .int b2] w = RUN 31 0 [some (.ref b0), some (.int b1), some (.int b2)] [] [] w := CALL_run 31 _ w
theorem n32 {b0 : Nat} {b1 : Int32} {w : Wd} : CALL 32 [.ref b0, .int b1] w = RUN 32 0 [some (.ref b0), some (.int b1)] [] [] w := CALL_run 32 _ w
theorem n33 {b0 b1 : Nat} {w : Wd} : CALL 33 [.ref b0, .ref b1] w = RUN 33 0 [some (.ref b0), some (.ref b1), none] [] [] w := CALL_run 33 _ w
theorem n34 {b0 b1 : Nat} {w : Wd} : CALL 34 [.ref b0, .ref b1] w = RUN 34 0 [some (.ref b0), some (.ref b1), none] [] [] w := CALL_run 34 _ w
theorem n35 {b0 b1 : Nat} {b2 : Int32} {w : Wd} : CALL 35 [.ref b0, .ref b1, .int b2] w = RUN 35 0 [some (.ref b0), some (.ref b1), some (.int b2), none, none] [] [] w := CALL_run 35 _ w
theorem n36 {b0 b1 : Nat} {w : Wd} : CALL 36 [.ref b0, .ref b1] w = RUN 36 0 [some (.ref b0), some (.ref b1), none] [] [] w := CALL_run 36 _ w
theorem n37 {b0 b1 : Nat} {w : Wd} : CALL 37 [.ref b0, .ref b1] w = RUN 37 0 [some (.ref b0), some (.ref b1), none] [] [] w := CALL_run 37 _ w
theorem n38 {b0 b1 : Nat} {w : Wd} : CALL 38 [.ref b0, .ref b1] w = RUN 38 0 [some (.ref b0), some (.ref b1), none] [] [] w := CALL_run 38 _ w
theorem n39 {b0 : Nat} {b1 : Int32} {w : Wd} : CALL 39 [.ref b0, .int b1] w = RUN 39 0 [some (.ref b0), some (.int b1)] [] [] w := CALL_run 39 _ w
theorem n40 {b0 : Nat} {w : Wd} : CALL 40 [.ref b0] w = RUN 40 0 [some (.ref b0), none] [] [] w := CALL_run 40 _ w
theorem n41 {b0 : Nat} {w : Wd} : CALL 41 [.ref b0] w = RUN 41 0 [some (.ref b0)] [] [] w := CALL_run 41 _ w
theorem n42 {b0 : Int32} {w : Wd} : CALL 42 [.int b0] w = RUN 42 0 [some (.int b0)] [] [] w := CALL_run 42 _ w
theorem n43 {b0 : Int32} {w : Wd} : CALL 43 [.int b0] w = RUN 43 0 [some (.int b0)] [] [] w := CALL_run 43 _ w
theorem n44 {b0 : Nat} {b1 b2 : Int32} {w : Wd} : CALL 44 [.ref b0, .int b1, .int b2] w = RUN 44 0 [some (.ref b0), some (.int b1), some (.int b2), none] [] [] w := CALL_run 44 _ w
theorem n45 {b0 : Nat} {b1 : Int32} {w : Wd} : CALL 45 [.ref b0, .int b1] w = RUN 45 0 [some (.ref b0), some (.int b1)] [] [] w := CALL_run 45 _ w
theorem n46 {b0 : Nat} {b1 b2 b3 : Int32} {w : Wd} : CALL 46 [.ref b0, .int b1, .int b2, .int b3] w = RUN 46 0 [some (.ref b0), some (.int b1), some (.int b2), some (.int b3), none, none] [] [] w := CALL_run 46 _ w
theorem n47 {b0 : Nat} {b1 b2 : Int32} {w : Wd} : CALL 47 [.ref b0, .int b1, .int b2] w = RUN 47 0 [some (.ref b0), some (.int b1), some (.int b2)] [] [] w := CALL_run 47 _ w
theorem n48 {b0 : Nat} {b1 b2 : Int32} {w : Wd} : CALL 48 [.ref b0, .int b1, .int b2] w = RUN 48 0 [some (.ref b0), some (.int b1), some (.int b2)] [] [] w := CALL_run 48 _ w
theorem n49 {b0 : Nat} {b1 b2 : Int32} {w : Wd} : CALL 49 [.ref b0, .int b1, .int b2] w = RUN 49 0 [some (.ref b0), some (.int b1), some (.int b2)] [] [] w := CALL_run 49 _ w
theorem n50 {b0 : Nat} {b1 b2 b3 : Int32} {w : Wd} : CALL 50 [.ref b0, .int b1, .int b2, .int b3] w = RUN 50 0 [some (.ref b0), some (.int b1), some (.int b2), some (.int b3), none, none] [] [] w := CALL_run 50 _ w
theorem n51 {b0 : Nat} {b1 b2 : Int32} {w : Wd} : CALL 51 [.ref b0, .int b1, .int b2] w = RUN 51 0 [some (.ref b0), some (.int b1), some (.int b2), none, none, none] [] [] w := CALL_run 51 _ w
theorem n52 {b0 : Nat} {b1 : Int32} {w : Wd} : CALL 52 [.ref b0, .int b1] w = RUN 52 0 [some (.ref b0), some (.int b1), none, none, none] [] [] w := CALL_run 52 _ w
theorem n53 {b0 : Nat} {b1 : Int32} {w : Wd} : CALL 53 [.ref b0, .int b1] w = RUN 53 0 [some (.ref b0), some (.int b1)] [] [] w := CALL_run 53 _ w
theorem n54 {b0 : Nat} {b1 : Int32} {w : Wd} : CALL 54 [.ref b0, .int b1] w = RUN 54 0 [some (.ref b0), some (.int b1)] [] [] w := CALL_run 54 _ w
theorem n55 {b0 : Nat} {b1 b2 b3 : Int32} {w : Wd} : CALL 55 [.ref b0, .int b1, .int b2, .int b3] w = RUN 55 0 [some (.ref b0), some (.int b1), some (.int b2), some (.int b3)] [] [] w := CALL_run 55 _ w
theorem n56 {b0 : Nat} {b1 b2 : Int32} {w : Wd} : CALL 56 [.ref b0, .int b1, .int b2] w = RUN 56 0 [some (.ref b0), some (.int b1), some (.int b2)] [] [] w := CALL_run 56 _ w
theorem n57 {b0 : Nat} {b1 b2 : Int32} {w : Wd} : CALL 57 [.ref b0, .int b1, .int b2] w = RUN 57 0 [some (.ref b0), some (.int b1), some (.int b2), none] [] [] w := CALL_run 57 _ w
theorem n58 {b0 : Nat} {b1 : Int32} {w : Wd} : CALL 58 [.ref b0, .int b1] w = RUN 58 0 [some (.ref b0), some (.int b1)] [] [] w := CALL_run 58 _ w
theorem n59 {b0 : Nat} {b1 : Int32} {w : Wd} : CALL 59 [.ref b0, .int b1] w = RUN 59 0 [some (.ref b0), some (.int b1)] [] [] w := CALL_run 59 _ w
theorem n60 {b0 b1 : Nat} {b2 : Int32} {w : Wd} : CALL 60 [.ref b0, .ref b1, .int b2] w = RUN 60 0 [some (.ref b0), some (.ref b1), some (.int b2), none] [] [] w := CALL_run 60 _ w
theorem n61 {b0 : Nat} {b1 : Int32} {w : Wd} : CALL 61 [.ref b0, .int b1] w = RUN 61 0 [some (.ref b0), some (.int b1), none, none, none, none] [] [] w := CALL_run 61 _ w
theorem n62 {b0 : Nat} {b1 b2 b3 b4 : Int32} {w : Wd} : CALL 62 [.ref b0, .int b1, .int b2, .int b3, .int b4] w = RUN 62 0 [some (.ref b0), some (.int b1), some (.int b2), some (.int b3), some (.int b4), none] [] [] w := CALL_run 62 _ w
theorem n63 {b0 : Nat} {b1 b2 : Int32} {w : Wd} : CALL 63 [.ref b0, .int b1, .int b2] w = RUN 63 0 [some (.ref b0), some (.int b1), some (.int b2), none, none, none] [] [] w := CALL_run 63 _ w
theorem n64 {b0 : Nat} {b1 b2 : Int32} {w : Wd} : CALL 64 [.ref b0, .int b1, .int b2] w = RUN 64 0 [some (.ref b0), some (.int b1), some (.int b2), none, none, none] [] [] w := CALL_run 64 _ w
theorem n65 {b0 : Nat} {b1 b2 b3 : Int32} {w : Wd} : CALL 65 [.ref b0, .int b1, .int b2, .int b3] w = RUN 65 0 [some (.ref b0), some (.int b1), some (.int b2), some (.int b3), none, none, none] [] [] w := CALL_run 65 _ w
theorem n66 {b0 : Nat} {b1 b2 : Int32} {w : Wd} : CALL 66 [.ref b0, .int b1, .int b2] w = RUN 66 0 [some (.ref b0), some (.int b1), some (.int b2), none, none, none, none] [] [] w := CALL_run 66 _ w
theorem n67 {b0 : Nat} {b1 b2 : Int32} {w : Wd} : CALL 67 [.ref b0, .int b1, .int b2] w = RUN 67 0 [some (.ref b0), some (.int b1), some (.int b2), none, none, none] [] [] w := CALL_run 67 _ w
theorem n68 {b0 : Nat} {b1 b2 : Int32} {w : Wd} : CALL 68 [.ref b0, .int b1, .int b2] w = RUN 68 0 [some (.ref b0), some (.int b1), some (.int b2), none, none, none] [] [] w := CALL_run 68 _ w
theorem n69 {b0 : Nat} {b1 b2 : Int32} {w : Wd} : CALL 69 [.ref b0, .int b1, .int b2] w = RUN 69 0 [some (.ref b0), some (.int b1), some (.int b2)] [] [] w := CALL_run 69 _ w
theorem n70 {b0 b1 : Nat} {b2 : Int32} {w : Wd} : CALL 70 [.ref b0, .ref b1, .int b2] w = RUN 70 0 [some (.ref b0), some (.ref b1), some (.int b2), none] [] [] w := CALL_run 70 _ w
theorem n71 {b0 : Nat} {b1 : Int32} {w : Wd} : CALL 71 [.ref b0, .int b1] w = RUN 71 0 [some (.ref b0), some (.int b1), none, none, none, none] [] [] w := CALL_run 71 _ w
theorem n72 {b0 b1 : Int32} {w : Wd} : CALL 72 [.int b0, .int b1] w = RUN 72 0 [some (.int b0), some (.int b1), none, none, none] [none, none, none, none, none] [] w := CALL_run 72 _ w
theorem n73 {b0 : Nat} {b1 : Int32} {w : Wd} : CALL 73 [.ref b0, .int b1] w = RUN 73 0 [some (.ref b0), some (.int b1), none, none] [] [] w := CALL_run 73 _ w
theorem n74 {b0 : Nat} {b1 b2 : Int32} {w : Wd} : CALL 74 [.ref b0, .int b1, .int b2] w = RUN 74 0 [some (.ref b0), some (.int b1), some (.int b2), none, none, none, none, none, none, none, none] [none, none, none, none, none, none, none, none, none, none, none] [] w := CALL_run 74 _ w
theorem n75 {b0 b1 : Int64} {w : Wd} : CALL 75 [.long b0, .long b1] w = RUN 75 0 [none, none, none, none, none, none, none, none, none, none, none] [some b0, none, some b1, none, none, none, none, none, none, none, none] [] w := CALL_run 75 _ w
theorem n76 {b0 : Nat} {b1 : Int32} {w : Wd} : CALL 76 [.ref b0, .int b1] w = RUN 76 0 [some (.ref b0), some (.int b1), none] [] [] w := CALL_run 76 _ w
theorem n77 {b0 : Nat} {b1 b2 : Int32} {w : Wd} : CALL 77 [.ref b0, .int b1, .int b2] w = RUN 77 0 [some (.ref b0), some (.int b1), some (.int b2), none] [] [] w := CALL_run 77 _ w
theorem n78 {b0 : Nat} {w : Wd} : CALL 78 [.ref b0] w = RUN 78 0 [some (.ref b0), none] [] [] w := CALL_run 78 _ w
theorem n79 {b0 : Nat} {w : Wd} : CALL 79 [.ref b0] w = RUN 79 0 [some (.ref b0), none] [] [] w := CALL_run 79 _ w
theorem n80 {b0 : Nat} {b1 b2 : Int32} {w : Wd} : CALL 80 [.ref b0, .int b1, .int b2] w = RUN 80 0 [some (.ref b0), some (.int b1), some (.int b2)] [] [] w := CALL_run 80 _ w
theorem n81 {b0 : Nat} {b1 b2 : Int32} {w : Wd} : CALL 81 [.ref b0, .int b1, .int b2] w = RUN 81 0 [some (.ref b0), some (.int b1), some (.int b2), none] [] [] w := CALL_run 81 _ w
theorem n82 {b0 : Nat} {b1 b2 b3 : Int32} {w : Wd} : CALL 82 [.ref b0, .int b1, .int b2, .int b3] w = RUN 82 0 [some (.ref b0), some (.int b1), some (.int b2), some (.int b3)] [] [] w := CALL_run 82 _ w
theorem n83 {b0 : Nat} {b1 b2 b3 : Int32} {w : Wd} : CALL 83 [.ref b0, .int b1, .int b2, .int b3] w = RUN 83 0 [some (.ref b0), some (.int b1), some (.int b2), some (.int b3), none] [] [] w := CALL_run 83 _ w
theorem n84 {b0 : Nat} {b1 b2 b3 b4 b5 : Int32} {w : Wd} : CALL 84 [.ref b0, .int b1, .int b2, .int b3, .int b4, .int b5] w = RUN 84 0 [some (.ref b0), some (.int b1), some (.int b2), some (.int b3), some (.int b4), some (.int b5), none, none] [] [] w := CALL_run 84 _ w
theorem n85 {b0 : Nat} {b1 : Int32} {w : Wd} : CALL 85 [.ref b0, .int b1] w = RUN 85 0 [some (.ref b0), some (.int b1), none, none] [] [] w := CALL_run 85 _ w
theorem n86 {b0 : Nat} {b1 : Int32} {w : Wd} : CALL 86 [.ref b0, .int b1] w = RUN 86 0 [some (.ref b0), some (.int b1), none, none] [] [] w := CALL_run 86 _ w
theorem n87 {b0 : Nat} {w : Wd} : CALL 87 [.ref b0] w = RUN 87 0 [some (.ref b0)] [] [] w := CALL_run 87 _ w
theorem n88 {b0 : Nat} {w : Wd} : CALL 88 [.ref b0] w = RUN 88 0 [some (.ref b0)] [] [] w := CALL_run 88 _ w
theorem n89 {b0 : Nat} {w : Wd} : CALL 89 [.ref b0] w = RUN 89 0 [some (.ref b0), none] [] [] w := CALL_run 89 _ w
theorem n90 {b0 : Nat} {b1 : Int32} {w : Wd} : CALL 90 [.ref b0, .int b1] w = RUN 90 0 [some (.ref b0), some (.int b1)] [] [] w := CALL_run 90 _ w
theorem n91 {b0 : Nat} {b1 : Int32} {w : Wd} : CALL 91 [.ref b0, .int b1] w = RUN 91 0 [some (.ref b0), some (.int b1), none, none] [] [] w := CALL_run 91 _ w
theorem n92 {b0 : Nat} {b1 : Int32} {w : Wd} : CALL 92 [.ref b0, .int b1] w = RUN 92 0 [some (.ref b0), some (.int b1)] [] [] w := CALL_run 92 _ w
theorem n93 {b0 : Nat} {b1 : Int32} {w : Wd} : CALL 93 [.ref b0, .int b1] w = RUN 93 0 [some (.ref b0), some (.int b1)] [] [] w := CALL_run 93 _ w
theorem n94 {b0 : Int32} {w : Wd} : CALL 94 [.int b0] w = RUN 94 0 [some (.int b0)] [] [] w := CALL_run 94 _ w
theorem n95 {b0 : Int32} {w : Wd} : CALL 95 [.int b0] w = RUN 95 0 [some (.int b0)] [] [] w := CALL_run 95 _ w
theorem n96 {b0 : Int32} {w : Wd} : CALL 96 [.int b0] w = RUN 96 0 [some (.int b0)] [] [] w := CALL_run 96 _ w
theorem n97 {b0 b1 : Int32} {w : Wd} : CALL 97 [.int b0, .int b1] w = RUN 97 0 [some (.int b0), some (.int b1)] [] [] w := CALL_run 97 _ w
theorem n98 {b0 b1 : Int32} {w : Wd} : CALL 98 [.int b0, .int b1] w = RUN 98 0 [some (.int b0), some (.int b1)] [] [] w := CALL_run 98 _ w
theorem n99 {b0 b1 : Int32} {w : Wd} : CALL 99 [.int b0, .int b1] w = RUN 99 0 [some (.int b0), some (.int b1)] [] [] w := CALL_run 99 _ w
theorem n100 {b0 : Int32} {w : Wd} : CALL 100 [.int b0] w = RUN 100 0 [some (.int b0)] [] [] w := CALL_run 100 _ w
theorem n101 {b0 b1 : Int32} {w : Wd} : CALL 101 [.int b0, .int b1] w = RUN 101 0 [some (.int b0), some (.int b1), none, none] [] [] w := CALL_run 101 _ w
theorem n102 {b0 b1 b2 : Int64} {w : Wd} : CALL 102 [.long b0, .long b1, .long b2] w = RUN 102 0 [none, none, none, none, none, none] [some b0, none, some b1, none, some b2, none] [] w := CALL_run 102 _ w
theorem n103 {b0 : Nat} {b1 : Int32} {w : Wd} : CALL 103 [.ref b0, .int b1] w = RUN 103 0 [some (.ref b0), some (.int b1)] [] [] w := CALL_run 103 _ w
theorem n104 {b0 : Nat} {b1 b2 : Int32} {w : Wd} : CALL 104 [.ref b0, .int b1, .int b2] w = RUN 104 0 [some (.ref b0), some (.int b1), some (.int b2), none] [] [] w := CALL_run 104 _ w
theorem n105 {b0 b1 : Nat} {w : Wd} : CALL 105 [.ref b0, .ref b1] w = RUN 105 0 [some (.ref b0), some (.ref b1), none] [] [] w := CALL_run 105 _ w
theorem n106 {b0 : Int32} {w : Wd} : CALL 106 [.int b0] w = RUN 106 0 [some (.int b0)] [] [] w := CALL_run 106 _ w
theorem n107 {b0 : Int32} {w : Wd} : CALL 107 [.int b0] w = RUN 107 0 [some (.int b0)] [] [] w := CALL_run 107 _ w
theorem n108 {b0 : Nat} {b1 : Int32} {w : Wd} : CALL 108 [.ref b0, .int b1] w = RUN 108 0 [some (.ref b0), some (.int b1)] [] [] w := CALL_run 108 _ w
theorem n109 {b0 b1 : Int32} {w : Wd} : CALL 109 [.int b0, .int b1] w = RUN 109 0 [some (.int b0), some (.int b1)] [] [] w := CALL_run 109 _ w
theorem n110 {b0 : Nat} {b1 b2 : Int32} {w : Wd} : CALL 110 [.ref b0, .int b1, .int b2] w = RUN 110 0 [some (.ref b0), some (.int b1), some (.int b2)] [] [] w := CALL_run 110 _ w
theorem n111 {b0 b1 : Int32} {w : Wd} : CALL 111 [.int b0, .int b1] w = RUN 111 0 [some (.int b0), some (.int b1)] [] [] w := CALL_run 111 _ w
theorem n112 {b0 b1 : Int32} {w : Wd} : CALL 112 [.int b0, .int b1] w = RUN 112 0 [some (.int b0), some (.int b1)] [] [] w := CALL_run 112 _ w
theorem n113 {b0 : Nat} {b1 : Int32} {w : Wd} : CALL 113 [.ref b0, .int b1] w = RUN 113 0 [some (.ref b0), some (.int b1)] [] [] w := CALL_run 113 _ w
theorem n114 {b0 : Int32} {w : Wd} : CALL 114 [.int b0] w = RUN 114 0 [some (.int b0), none, none] [] [] w := CALL_run 114 _ w
theorem n115 {b0 b1 : Int32} {w : Wd} : CALL 115 [.int b0, .int b1] w = RUN 115 0 [some (.int b0), some (.int b1)] [] [] w := CALL_run 115 _ w
theorem n116 {b0 : Nat} {b1 b2 : Int32} {w : Wd} : CALL 116 [.ref b0, .int b1, .int b2] w = RUN 116 0 [some (.ref b0), some (.int b1), some (.int b2)] [] [] w := CALL_run 116 _ w
theorem n117 {b0 : Nat} {b1 : Int32} {w : Wd} : CALL 117 [.ref b0, .int b1] w = RUN 117 0 [some (.ref b0), some (.int b1)] [] [] w := CALL_run 117 _ w
theorem n118 {b0 : Nat} {b1 b2 b3 : Int32} {w : Wd} : CALL 118 [.ref b0, .int b1, .int b2, .int b3] w = RUN 118 0 [some (.ref b0), some (.int b1), some (.int b2), some (.int b3)] [] [] w := CALL_run 118 _ w
theorem n119 {b0 : Int32} {w : Wd} : CALL 119 [.int b0] w = RUN 119 0 [some (.int b0)] [] [] w := CALL_run 119 _ w
theorem n120 {b0 : Nat} {b1 b2 : Int32} {w : Wd} : CALL 120 [.ref b0, .int b1, .int b2] w = RUN 120 0 [some (.ref b0), some (.int b1), some (.int b2)] [] [] w := CALL_run 120 _ w
theorem n121 {b0 : Nat} {b1 b2 : Int32} {w : Wd} : CALL 121 [.ref b0, .int b1, .int b2] w = RUN 121 0 [some (.ref b0), some (.int b1), some (.int b2), none] [] [] w := CALL_run 121 _ w
theorem n122 {b0 : Nat} {b1 b2 : Int32} {w : Wd} : CALL 122 [.ref b0, .int b1, .int b2] w = RUN 122 0 [some (.ref b0), some (.int b1), some (.int b2)] [] [] w := CALL_run 122 _ w
theorem n123 {b0 : Nat} {b1 : Int32} {w : Wd} : CALL 123 [.ref b0, .int b1] w = RUN 123 0 [some (.ref b0), some (.int b1), none] [] [] w := CALL_run 123 _ w
theorem n124 {b0 : Nat} {b1 : Int32} {w : Wd} : CALL 124 [.ref b0, .int b1] w = RUN 124 0 [some (.ref b0), some (.int b1)] [] [] w := CALL_run 124 _ w
theorem n125 {b0 : Nat} {b1 : Int32} {w : Wd} : CALL 125 [.ref b0, .int b1] w = RUN 125 0 [some (.ref b0), some (.int b1)] [] [] w := CALL_run 125 _ w
theorem n126 {b0 b1 b2 : Int32} {w : Wd} : CALL 126 [.int b0, .int b1, .int b2] w = RUN 126 0 [some (.int b0), some (.int b1), some (.int b2)] [] [] w := CALL_run 126 _ w
theorem n127 {b0 : Nat} {b1 b2 : Int32} {w : Wd} : CALL 127 [.ref b0, .int b1, .int b2] w = RUN 127 0 [some (.ref b0), some (.int b1), some (.int b2)] [] [] w := CALL_run 127 _ w
theorem n128 {b0 : Int32} {w : Wd} : CALL 128 [.int b0] w = RUN 128 0 [some (.int b0)] [] [] w := CALL_run 128 _ w
theorem n129 {b0 : Nat} {b1 b2 b3 : Int32} {w : Wd} : CALL 129 [.ref b0, .int b1, .int b2, .int b3] w = RUN 129 0 [some (.ref b0), some (.int b1), some (.int b2), some (.int b3), none] [] [] w := CALL_run 129 _ w
theorem n130 {b0 : Nat} {b1 b2 : Int32} {w : Wd} : CALL 130 [.ref b0, .int b1, .int b2] w = RUN 130 0 [some (.ref b0), some (.int b1), some (.int b2), none, none, none] [] [] w := CALL_run 130 _ w
theorem n131 {b0 : Nat} {b1 : Int32} {w : Wd} : CALL 131 [.ref b0, .int b1] w = RUN 131 0 [some (.ref b0), some (.int b1), none, none, none, none, none] [] [] w := CALL_run 131 _ w
theorem n132 {b0 : Nat} {b1 : Int32} {w : Wd} : CALL 132 [.ref b0, .int b1] w = RUN 132 0 [some (.ref b0), some (.int b1)] [] [] w := CALL_run 132 _ w
theorem n133 {b0 : Nat} {b1 b2 : Int32} {w : Wd} : CALL 133 [.ref b0, .int b1, .int b2] w = RUN 133 0 [some (.ref b0), some (.int b1), some (.int b2), none, none] [] [] w := CALL_run 133 _ w
theorem n134 {b0 : Nat} {b1 : Int32} {w : Wd} : CALL 134 [.ref b0, .int b1] w = RUN 134 0 [some (.ref b0), some (.int b1)] [] [] w := CALL_run 134 _ w
theorem n135 {b0 : Nat} {b1 : Int32} {w : Wd} : CALL 135 [.ref b0, .int b1] w = RUN 135 0 [some (.ref b0), some (.int b1), none, none, none, none, none] [] [] w := CALL_run 135 _ w
theorem n136 {b0 : Nat} {b1 : Int32} {w : Wd} : CALL 136 [.ref b0, .int b1] w = RUN 136 0 [some (.ref b0), some (.int b1), none] [] [] w := CALL_run 136 _ w
theorem n137 {b0 : Nat} {b1 : Int32} {w : Wd} : CALL 137 [.ref b0, .int b1] w = RUN 137 0 [some (.ref b0), some (.int b1), none, none] [] [] w := CALL_run 137 _ w
theorem n138 {b0 : Nat} {w : Wd} : CALL 138 [.ref b0] w = RUN 138 0 [some (.ref b0), none, none] [] [] w := CALL_run 138 _ w
theorem n139 {b0 : Nat} {b1 : Int32} {w : Wd} : CALL 139 [.ref b0, .int b1] w = RUN 139 0 [some (.ref b0), some (.int b1)] [] [] w := CALL_run 139 _ w
theorem n140 {b0 : Nat} {w : Wd} : CALL 140 [.ref b0] w = RUN 140 0 [some (.ref b0), none, none] [] [] w := CALL_run 140 _ w
theorem n141 {b0 : Nat} {w : Wd} : CALL 141 [.ref b0] w = RUN 141 0 [some (.ref b0), none, none] [] [] w := CALL_run 141 _ w
theorem n142 {b0 : Nat} {w : Wd} : CALL 142 [.ref b0] w = RUN 142 0 [some (.ref b0), none, none] [] [] w := CALL_run 142 _ w
theorem n143 {b0 : Nat} {b1 : Int32} {w : Wd} : CALL 143 [.ref b0, .int b1] w = RUN 143 0 [some (.ref b0), some (.int b1)] [] [] w := CALL_run 143 _ w
theorem n144 {b0 : Nat} {b1 b2 : Int32} {w : Wd} : CALL 144 [.ref b0, .int b1, .int b2] w = RUN 144 0 [some (.ref b0), some (.int b1), some (.int b2), none] [] [] w := CALL_run 144 _ w
theorem n145 {b0 : Nat} {b1 b2 b3 : Int32} {w : Wd} : CALL 145 [.ref b0, .int b1, .int b2, .int b3] w = RUN 145 0 [some (.ref b0), some (.int b1), some (.int b2), some (.int b3)] [] [] w := CALL_run 145 _ w
theorem n146 {b0 : Nat} {b1 b2 : Int32} {w : Wd} : CALL 146 [.ref b0, .int b1, .int b2] w = RUN 146 0 [some (.ref b0), some (.int b1), some (.int b2)] [] [] w := CALL_run 146 _ w
theorem n147 {b0 : Nat} {b1 b2 : Int32} {w : Wd} : CALL 147 [.ref b0, .int b1, .int b2] w = RUN 147 0 [some (.ref b0), some (.int b1), some (.int b2), none] [] [] w := CALL_run 147 _ w
theorem n148 {b0 : Nat} {b1 : Int32} {w : Wd} : CALL 148 [.ref b0, .int b1] w = RUN 148 0 [some (.ref b0), some (.int b1), none] [] [] w := CALL_run 148 _ w
theorem n149 {b0 : Nat} {b1 : Int32} {w : Wd} : CALL 149 [.ref b0, .int b1] w = RUN 149 0 [some (.ref b0), some (.int b1)] [] [] w := CALL_run 149 _ w
theorem n150 {b0 : Nat} {b1 : Int32} {w : Wd} : CALL 150 [.ref b0, .int b1] w = RUN 150 0 [some (.ref b0), some (.int b1)] [] [] w := CALL_run 150 _ w
theorem n151 {b0 : Nat} {b1 : Int32} {w : Wd} : CALL 151 [.ref b0, .int b1] w = RUN 151 0 [some (.ref b0), some (.int b1), none, none, none, none] [] [] w := CALL_run 151 _ w
theorem n152 {b0 : Nat} {b1 b2 b3 b4 : Int32} {w : Wd} : CALL 152 [.ref b0, .int b1, .int b2, .int b3, .int b4] w = RUN 152 0 [some (.ref b0), some (.int b1), some (.int b2), some (.int b3), some (.int b4), none, none, none] [] [] w := CALL_run 152 _ w
theorem n153 {b0 : Nat} {b1 b2 : Int32} {w : Wd} : CALL 153 [.ref b0, .int b1, .int b2] w = RUN 153 0 [some (.ref b0), some (.int b1), some (.int b2), none] [] [] w := CALL_run 153 _ w
theorem n154 {b0 : Nat} {b1 b2 : Int32} {w : Wd} : CALL 154 [.ref b0, .int b1, .int b2] w = RUN 154 0 [some (.ref b0), some (.int b1), some (.int b2)] [] [] w := CALL_run 154 _ w
theorem n155 {b0 : Nat} {b1 b2 : Int32} {w : Wd} : CALL 155 [.ref b0, .int b1, .int b2] w = RUN 155 0 [some (.ref b0), some (.int b1), some (.int b2), none, none, none, none, none] [] [] w := CALL_run 155 _ w
theorem n156 {b0 : Nat} {b1 b2 : Int32} {w : Wd} : CALL 156 [.ref b0, .int b1, .int b2] w = RUN 156 0 [some (.ref b0), some (.int b1), some (.int b2), none, none, none, none, none] [] [] w := CALL_run 156 _ w
theorem n157 {b0 : Nat} {b1 b2 b3 : Int32} {w : Wd} : CALL 157 [.ref b0, .int b1, .int b2, .int b3] w = RUN 157 0 [some (.ref b0), some (.int b1), some (.int b2), some (.int b3), none, none, none] [] [] w := CALL_run 157 _ w
theorem n158 {b0 : Nat} {b1 b2 : Int32} {w : Wd} : CALL 158 [.ref b0, .int b1, .int b2] w = RUN 158 0 [some (.ref b0), some (.int b1), some (.int b2), none, none, none, none] [] [] w := CALL_run 158 _ w
theorem n159 {b0 : Nat} {b1 b2 : Int32} {w : Wd} : CALL 159 [.ref b0, .int b1, .int b2] w = RUN 159 0 [some (.ref b0), some (.int b1), some (.int b2), none, none, none] [] [] w := CALL_run 159 _ w
theorem n160 {b0 : Nat} {b1 b2 : Int32} {w : Wd} : CALL 160 [.ref b0, .int b1, .int b2] w = RUN 160 0 [some (.ref b0), some (.int b1), some (.int b2)] [] [] w := CALL_run 160 _ w
theorem n161 {b0 : Nat} {b1 b2 : Int32} {w : Wd} : CALL 161 [.ref b0, .int b1, .int b2] w = RUN 161 0 [some (.ref b0), some (.int b1), some (.int b2), none, none, none, none] [] [] w := CALL_run 161 _ w
theorem n162 {b0 : Nat} {b1 b2 : Int32} {w : Wd} : CALL 162 [.ref b0, .int b1, .int b2] w = RUN 162 0 [some (.ref b0), some (.int b1), some (.int b2), none, none, none, none] [] [] w := CALL_run 162 _ w
theorem n163 {b0 : Nat} {b1 : Int32} {w : Wd} : CALL 163 [.ref b0, .int b1] w = RUN 163 0 [some (.ref b0), some (.int b1), none, none] [] [] w := CALL_run 163 _ w
theorem n164 {b0 : Nat} {w : Wd} : CALL 164 [.ref b0] w = RUN 164 0 [some (.ref b0)] [] [] w := CALL_run 164 _ w
theorem n165 {b0 : Nat} {b1 : Int32} {w : Wd} : CALL 165 [.ref b0, .int b1] w = RUN 165 0 [some (.ref b0), some (.int b1), none, none] [] [] w := CALL_run 165 _ w
theorem n166 {b0 : Nat} {b1 b2 : Int32} {w : Wd} : CALL 166 [.ref b0, .int b1, .int b2] w = RUN 166 0 [some (.ref b0), some (.int b1), some (.int b2), none, none, none, none, none, none, none, none, none, none] [none, none, none, none, none, none, none, none, none, none, none, none, none] [] w := CALL_run 166 _ w
theorem n167 {b0 : Nat} {b1 : Int32} {w : Wd} : CALL 167 [.ref b0, .int b1] w = RUN 167 0 [some (.ref b0), some (.int b1)] [] [] w := CALL_run 167 _ w
theorem n168 {b0 : Nat} {b1 b2 : Int32} {w : Wd} : CALL 168 [.ref b0, .int b1, .int b2] w = RUN 168 0 [some (.ref b0), some (.int b1), some (.int b2), none] [] [] w := CALL_run 168 _ w
theorem n169 {b0 : Nat} {w : Wd} : CALL 169 [.ref b0] w = RUN 169 0 [some (.ref b0), none] [] [] w := CALL_run 169 _ w
theorem n170 {b0 : Int32} {w : Wd} : CALL 170 [.int b0] w = RUN 170 0 [some (.int b0)] [] [] w := CALL_run 170 _ w
theorem n171 {b0 : Int32} {w : Wd} : CALL 171 [.int b0] w = RUN 171 0 [some (.int b0)] [] [] w := CALL_run 171 _ w
theorem n172 {b0 : Nat} {b1 : Int32} {w : Wd} : CALL 172 [.ref b0, .int b1] w = RUN 172 0 [some (.ref b0), some (.int b1)] [] [] w := CALL_run 172 _ w
theorem n173 {b0 : Nat} {w : Wd} : CALL 173 [.ref b0] w = RUN 173 0 [some (.ref b0), none] [] [] w := CALL_run 173 _ w
theorem n174 {b0 : Nat} {b1 b2 b3 b4 : Int32} {w : Wd} : CALL 174 [.ref b0, .int b1, .int b2, .int b3, .int b4] w = RUN 174 0 [some (.ref b0), some (.int b1), some (.int b2), some (.int b3), some (.int b4)] [] [] w := CALL_run 174 _ w
theorem n175 {b0 : Nat} {b1 : Int32} {w : Wd} : CALL 175 [.ref b0, .int b1] w = RUN 175 0 [some (.ref b0), some (.int b1)] [] [] w := CALL_run 175 _ w
theorem n176 {b0 : Nat} {w : Wd} : CALL 176 [.ref b0] w = RUN 176 0 [some (.ref b0)] [] [] w := CALL_run 176 _ w
theorem n177 {b0 : Nat} {b1 b2 b3 b4 : Int32} {w : Wd} : CALL 177 [.ref b0, .int b1, .int b2, .int b3, .int b4] w = RUN 177 0 [some (.ref b0), some (.int b1), some (.int b2), some (.int b3), some (.int b4)] [] [] w := CALL_run 177 _ w
theorem n178 {b0 : Nat} {b1 b2 b3 b4 b5 : Int32} {w : Wd} : CALL 178 [.ref b0, .int b1, .int b2, .int b3, .int b4, .int b5] w = RUN 178 0 [some (.ref b0), some (.int b1), some (.int b2), some (.int b3), some (.int b4), some (.int b5)] [] [] w := CALL_run 178 _ w
theorem n179 {b0 : Nat} {b1 b2 b3 b4 b5 b6 : Int32} {w : Wd} : CALL 179 [.ref b0, .int b1, .int b2, .int b3, .int b4, .int b5, .int b6] w = RUN 179 0 [some (.ref b0), some (.int b1), some (.int b2), some (.int b3), some (.int b4), some (.int b5), some (.int b6)] [] [] w := CALL_run 179 _ w
theorem n180 {b0 : Nat} {b1 b2 : Int32} {w : Wd} : CALL 180 [.ref b0, .int b1, .int b2] w = RUN 180 0 [some (.ref b0), some (.int b1), some (.int b2)] [] [] w := CALL_run 180 _ w
theorem n181 {b0 : Nat} {w : Wd} : CALL 181 [.ref b0] w = RUN 181 0 [some (.ref b0)] [] [] w := CALL_run 181 _ w
theorem n182 {b0 : Nat} {b1 b2 b3 : Int32} {w : Wd} : CALL 182 [.ref b0, .int b1, .int b2, .int b3] w = RUN 182 0 [some (.ref b0), some (.int b1), some (.int b2), some (.int b3)] [] [] w := CALL_run 182 _ w
theorem n183 {b0 : Nat} {b1 : Int32} {w : Wd} : CALL 183 [.ref b0, .int b1] w = RUN 183 0 [some (.ref b0), some (.int b1), none] [] [] w := CALL_run 183 _ w
theorem n184 {b0 : Nat} {w : Wd} : CALL 184 [.ref b0] w = RUN 184 0 [some (.ref b0), none] [] [] w := CALL_run 184 _ w
theorem n185 {b0 : Nat} {w : Wd} : CALL 185 [.ref b0] w = RUN 185 0 [some (.ref b0)] [] [] w := CALL_run 185 _ w
theorem n186 {b0 : Nat} {w : Wd} : CALL 186 [.ref b0] w = RUN 186 0 [some (.ref b0), none] [] [] w := CALL_run 186 _ w
theorem n187 {b0 : Nat} {w : Wd} : CALL 187 [.ref b0] w = RUN 187 0 [some (.ref b0), none, none] [] [] w := CALL_run 187 _ w
theorem n188 {b0 : Nat} {b1 b2 : Int32} {w : Wd} : CALL 188 [.ref b0, .int b1, .int b2] w = RUN 188 0 [some (.ref b0), some (.int b1), some (.int b2)] [] [] w := CALL_run 188 _ w
theorem n189 {b0 b1 : Int32} {w : Wd} : CALL 189 [.int b0, .int b1] w = RUN 189 0 [some (.int b0), some (.int b1)] [] [] w := CALL_run 189 _ w
theorem n190 {b0 : Nat} {b1 b2 : Int32} {w : Wd} : CALL 190 [.ref b0, .int b1, .int b2] w = RUN 190 0 [some (.ref b0), some (.int b1), some (.int b2), none] [] [] w := CALL_run 190 _ w
theorem n191 {b0 : Int32} {w : Wd} : CALL 191 [.int b0] w = RUN 191 0 [some (.int b0)] [] [] w := CALL_run 191 _ w
theorem n192 {b0 : Nat} {b1 b2 b3 : Int32} {w : Wd} : CALL 192 [.ref b0, .int b1, .int b2, .int b3] w = RUN 192 0 [some (.ref b0), some (.int b1), some (.int b2), some (.int b3), none] [] [] w := CALL_run 192 _ w
theorem n193 {b0 : Nat} {b1 b2 b3 : Int32} {w : Wd} : CALL 193 [.ref b0, .int b1, .int b2, .int b3] w = RUN 193 0 [some (.ref b0), some (.int b1), some (.int b2), some (.int b3)] [] [] w := CALL_run 193 _ w
theorem n194 {b0 : Nat} {b1 b2 b3 b4 b5 : Int32} {w : Wd} : CALL 194 [.ref b0, .int b1, .int b2, .int b3, .int b4, .int b5] w = RUN 194 0 [some (.ref b0), some (.int b1), some (.int b2), some (.int b3), some (.int b4), some (.int b5), none, none, none, none] [] [] w := CALL_run 194 _ w
theorem n195 {b0 : Nat} {b1 : Int32} {w : Wd} : CALL 195 [.ref b0, .int b1] w = RUN 195 0 [some (.ref b0), some (.int b1)] [] [] w := CALL_run 195 _ w
theorem n196 {b0 : Nat} {b1 : Int32} {w : Wd} : CALL 196 [.ref b0, .int b1] w = RUN 196 0 [some (.ref b0), some (.int b1), none] [] [] w := CALL_run 196 _ w
theorem n197 {b0 : Nat} {b1 : Int32} {w : Wd} : CALL 197 [.ref b0, .int b1] w = RUN 197 0 [some (.ref b0), some (.int b1), none] [] [] w := CALL_run 197 _ w
theorem n198 {b0 : Nat} {w : Wd} : CALL 198 [.ref b0] w = RUN 198 0 [some (.ref b0)] [] [] w := CALL_run 198 _ w
theorem n199 {b0 : Nat} {w : Wd} : CALL 199 [.ref b0] w = RUN 199 0 [some (.ref b0)] [] [] w := CALL_run 199 _ w
theorem n200 {b0 : Nat} {w : Wd} : CALL 200 [.ref b0] w = RUN 200 0 [some (.ref b0), none] [] [] w := CALL_run 200 _ w
theorem n201 {b0 : Nat} {b1 : Int32} {w : Wd} : CALL 201 [.ref b0, .int b1] w = RUN 201 0 [some (.ref b0), some (.int b1), none, none] [] [] w := CALL_run 201 _ w
theorem n202 {b0 : Nat} {b1 : Int32} {w : Wd} : CALL 202 [.ref b0, .int b1] w = RUN 202 0 [some (.ref b0), some (.int b1)] [] [] w := CALL_run 202 _ w
theorem n203 {b0 : Int32} {w : Wd} : CALL 203 [.int b0] w = RUN 203 0 [some (.int b0)] [] [] w := CALL_run 203 _ w
