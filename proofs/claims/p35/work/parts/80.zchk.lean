theorem zpT648 : zcheck zpZ zpRS zpMT [zpC569, zpC647] zpC648 zpP12 1 zpA648 [] 3000 = true := by decide +kernel
theorem zpT649 : zcheck zpZ zpRS zpMT [zpC569, zpC648] zpC649 zpP12 1 zpA649 [] 3000 = true := by decide +kernel
theorem zpT650 : zcheck zpZ zpRS zpMT [zpC638, zpC639, zpC649] zpC650 zpP12 1 zpA650 [] 3000 = true := by decide +kernel
theorem zpT651 : zcheck zpZ zpRS zpMT [zpC641, zpC642, zpC650] zpC651 zpP12 1 zpA651 [] 3000 = true := by decide +kernel
theorem zpT652e : zrun zpZ zpRS zpP12 zpMT [zpC567, zpC569, zpC570, zpC633, zpC644, zpC645, zpC646, zpC651] (zpC652.2.2.1.2.1.length, zpC652.2.2.2.1, zpC652.2.2.2.2, zpC652.2.1, 1) (zpMT zpC652.1).2.1 zpA652 [] none 3000 0 zpC652.2.2.1.2 = true := by decide +kernel
theorem zpT652h0 : zhead zpZ zpRS zpMT [zpC567, zpC569, zpC570, zpC633, zpC644, zpC645, zpC646, zpC651] zpC652 zpP12 1 zpA652 [] 3000 zpA652h0 = true := by decide +kernel
theorem zpT652 : zcheck zpZ zpRS zpMT [zpC567, zpC569, zpC570, zpC633, zpC644, zpC645, zpC646, zpC651] zpC652 zpP12 1 zpA652 [] 3000 = true := zcheck_of zpT652e (zall_cons zpT652h0 (zall_nil)) (by decide +kernel)
theorem zpT653 : zcheck zpZ zpRS zpMT [zpC569, zpC652] zpC653 zpP12 1 zpA653 [] 3000 = true := by decide +kernel
theorem zpT654 : zcheck zpZ zpRS zpMT [zpC569, zpC653] zpC654 zpP12 1 zpA654 [] 3000 = true := by decide +kernel
theorem zpT655 : zcheck zpZ zpRS zpMT [zpC569, zpC654] zpC655 zpP12 1 zpA655 [] 3000 = true := by decide +kernel
theorem zpT656 : zcheck zpZ zpRS zpMT [zpC638, zpC639, zpC655] zpC656 zpP12 1 zpA656 [] 3000 = true := by decide +kernel
theorem zpT657 : zcheck zpZ zpRS zpMT [zpC641, zpC642, zpC656] zpC657 zpP12 1 zpA657 [] 3000 = true := by decide +kernel
theorem zpT658e : zrun zpZ zpRS zpP12 zpMT [zpC567, zpC569, zpC570, zpC633, zpC644, zpC645, zpC652, zpC657] (zpC658.2.2.1.2.1.length, zpC658.2.2.2.1, zpC658.2.2.2.2, zpC658.2.1, 1) (zpMT zpC658.1).2.1 zpA658 [] none 3000 0 zpC658.2.2.1.2 = true := by decide +kernel
theorem zpT658h0 : zhead zpZ zpRS zpMT [zpC567, zpC569, zpC570, zpC633, zpC644, zpC645, zpC652, zpC657] zpC658 zpP12 1 zpA658 [] 3000 zpA658h0 = true := by decide +kernel
theorem zpT658 : zcheck zpZ zpRS zpMT [zpC567, zpC569, zpC570, zpC633, zpC644, zpC645, zpC652, zpC657] zpC658 zpP12 1 zpA658 [] 3000 = true := zcheck_of zpT658e (zall_cons zpT658h0 (zall_nil)) (by decide +kernel)
theorem zpT659 : zcheck zpZ zpRS zpMT [zpC569, zpC658] zpC659 zpP12 1 zpA659 [] 3000 = true := by decide +kernel
theorem zpT660 : zcheck zpZ zpRS zpMT [zpC569, zpC659] zpC660 zpP12 1 zpA660 [] 3000 = true := by decide +kernel
theorem zpT661 : zcheck zpZ zpRS zpMT [zpC569, zpC660] zpC661 zpP12 1 zpA661 [] 3000 = true := by decide +kernel
theorem zpT662 : zcheck zpZ zpRS zpMT [zpC638, zpC639, zpC661] zpC662 zpP12 1 zpA662 [] 3000 = true := by decide +kernel
theorem zpT663 : zcheck zpZ zpRS zpMT [zpC641, zpC642, zpC662] zpC663 zpP12 1 zpA663 [] 3000 = true := by decide +kernel
theorem zpT664e : zrun zpZ zpRS zpP12 zpMT [zpC567, zpC569, zpC570, zpC633, zpC644, zpC645, zpC658, zpC663] (zpC664.2.2.1.2.1.length, zpC664.2.2.2.1, zpC664.2.2.2.2, zpC664.2.1, 1) (zpMT zpC664.1).2.1 zpA664 [] none 3000 0 zpC664.2.2.1.2 = true := by decide +kernel
theorem zpT664h0 : zhead zpZ zpRS zpMT [zpC567, zpC569, zpC570, zpC633, zpC644, zpC645, zpC658, zpC663] zpC664 zpP12 1 zpA664 [] 3000 zpA664h0 = true := by decide +kernel
theorem zpT664 : zcheck zpZ zpRS zpMT [zpC567, zpC569, zpC570, zpC633, zpC644, zpC645, zpC658, zpC663] zpC664 zpP12 1 zpA664 [] 3000 = true := zcheck_of zpT664e (zall_cons zpT664h0 (zall_nil)) (by decide +kernel)
theorem zpT665 : zcheck zpZ zpRS zpMT [zpC569, zpC664] zpC665 zpP12 1 zpA665 [] 3000 = true := by decide +kernel
theorem zpT666 : zcheck zpZ zpRS zpMT [zpC569, zpC665] zpC666 zpP12 1 zpA666 [] 3000 = true := by decide +kernel
